set_option maxRecDepth 100000 in
theorem dk_68 : cd_68.all (fun e => decide (decode prog_5_method_7_code e.1 = .ok e.2)) = true := by decide +kernel
set_option maxRecDepth 100000 in
theorem dk_69 : cd_69.all (fun e => decide (decode prog_1_method_20_code e.1 = .ok e.2)) = true := by decide +kernel
set_option maxRecDepth 100000 in
theorem dk_70 : cd_70.all (fun e => decide (decode prog_5_method_6_code e.1 = .ok e.2)) = true := by decide +kernel
set_option maxRecDepth 100000 in
theorem dk_71 : cd_71.all (fun e => decide (decode prog_3_method_8_code e.1 = .ok e.2)) = true := by decide +kernel
set_option maxRecDepth 100000 in
theorem dk_72 : cd_72.all (fun e => decide (decode prog_5_method_8_code e.1 = .ok e.2)) = true := by decide +kernel
set_option maxRecDepth 100000 in
theorem dk_73 : cd_73.all (fun e => decide (decode prog_1_method_30_code e.1 = .ok e.2)) = true := by decide +kernel
set_option maxRecDepth 100000 in
theorem dk_74 : cd_74.all (fun e => decide (decode prog_1_method_31_code e.1 = .ok e.2)) = true := by decide +kernel
set_option maxRecDepth 100000 in
theorem dk_75 : cd_75.all (fun e => decide (decode method_4_code e.1 = .ok e.2)) = true := by decide +kernel
set_option maxRecDepth 100000 in
theorem dk_76 : cd_76.all (fun e => decide (decode prog_1_method_5_code e.1 = .ok e.2)) = true := by decide +kernel
set_option maxRecDepth 100000 in
theorem dk_77 : cd_77.all (fun e => decide (decode prog_1_method_23_code e.1 = .ok e.2)) = true := by decide +kernel
set_option maxRecDepth 100000 in
theorem dk_78 : cd_78.all (fun e => decide (decode prog_1_method_34_code e.1 = .ok e.2)) = true := by decide +kernel
set_option maxRecDepth 100000 in
theorem dk_79 : cd_79.all (fun e => decide (decode prog_1_method_35_code e.1 = .ok e.2)) = true := by decide +kernel
set_option maxRecDepth 100000 in
theorem dk_80 : cd_80.all (fun e => decide (decode prog_1_method_36_code e.1 = .ok e.2)) = true := by decide +kernel
set_option maxRecDepth 100000 in
theorem dk_81 : cd_81.all (fun e => decide (decode prog_7_method_3_code e.1 = .ok e.2)) = true := by decide +kernel
set_option maxRecDepth 100000 in
theorem dk_82 : cd_82.all (fun e => decide (decode method_5_code e.1 = .ok e.2)) = true := by decide +kernel
set_option maxRecDepth 100000 in
theorem dk_83 : cd_83.all (fun e => decide (decode prog_1_method_6_code e.1 = .ok e.2)) = true := by decide +kernel
set_option maxRecDepth 100000 in
theorem dk_84 : cd_84.all (fun e => decide (decode method_6_code e.1 = .ok e.2)) = true := by decide +kernel
set_option maxRecDepth 100000 in
theorem dk_85 : cd_85.all (fun e => decide (decode prog_1_method_7_code e.1 = .ok e.2)) = true := by decide +kernel
set_option maxRecDepth 100000 in
theorem dk_86 : cd_86.all (fun e => decide (decode prog_1_method_37_code e.1 = .ok e.2)) = true := by decide +kernel
set_option maxRecDepth 100000 in
theorem dk_87 : cd_87.all (fun e => decide (decode method_7_code e.1 = .ok e.2)) = true := by decide +kernel
set_option maxRecDepth 100000 in
theorem dk_88 : cd_88.all (fun e => decide (decode prog_1_method_8_code e.1 = .ok e.2)) = true := by decide +kernel
set_option maxRecDepth 100000 in
theorem dk_89 : cd_89.all (fun e => decide (decode prog_1_method_19_code e.1 = .ok e.2)) = true := by decide +kernel
set_option maxRecDepth 100000 in
theorem dk_90 : cd_90.all (fun e => decide (decode method_8_code e.1 = .ok e.2)) = true := by decide +kernel
set_option maxRecDepth 100000 in
theorem dk_91 : cd_91.all (fun e => decide (decode prog_1_method_9_code e.1 = .ok e.2)) = true := by decide +kernel
set_option maxRecDepth 100000 in
theorem dk_92 : cd_92.all (fun e => decide (decode method_9_code e.1 = .ok e.2)) = true := by decide +kernel
set_option maxRecDepth 100000 in
theorem dk_93 : cd_93.all (fun e => decide (decode prog_1_method_10_code e.1 = .ok e.2)) = true := by decide +kernel
set_option maxRecDepth 100000 in
theorem dk_94 : cd_94.all (fun e => decide (decode prog_1_method_42_code e.1 = .ok e.2)) = true := by decide +kernel
set_option maxRecDepth 100000 in
theorem dk_95 : cd_95.all (fun e => decide (decode prog_8_method_2_code e.1 = .ok e.2)) = true := by decide +kernel
set_option maxRecDepth 100000 in
theorem dk_96 : cd_96.all (fun e => decide (decode prog_8_method_3_code e.1 = .ok e.2)) = true := by decide +kernel
set_option maxRecDepth 100000 in
theorem dk_97 : cd_97.all (fun e => decide (decode prog_1_method_43_code e.1 = .ok e.2)) = true := by decide +kernel
