set_option maxRecDepth 100000 in
theorem dk_98 : cd_98.all (fun e => decide (decode prog_1_method_44_code e.1 = .ok e.2)) = true := by decide +kernel
set_option maxRecDepth 100000 in
theorem dk_99 : cd_99.all (fun e => decide (decode prog_8_method_4_code e.1 = .ok e.2)) = true := by decide +kernel
set_option maxRecDepth 100000 in
theorem dk_100 : cd_100.all (fun e => decide (decode prog_8_method_5_code e.1 = .ok e.2)) = true := by decide +kernel
set_option maxRecDepth 100000 in
theorem dk_101 : cd_101.all (fun e => decide (decode prog_4_method_5_code e.1 = .ok e.2)) = true := by decide +kernel
set_option maxRecDepth 100000 in
theorem dk_102 : cd_102.all (fun e => decide (decode prog_1_method_45_code e.1 = .ok e.2)) = true := by decide +kernel
set_option maxRecDepth 100000 in
theorem dk_103 : cd_103.all (fun e => decide (decode method_10_code e.1 = .ok e.2)) = true := by decide +kernel
set_option maxRecDepth 100000 in
theorem dk_104 : cd_104.all (fun e => decide (decode prog_1_method_11_code e.1 = .ok e.2)) = true := by decide +kernel
set_option maxRecDepth 100000 in
theorem dk_105 : cd_105.all (fun e => decide (decode prog_1_method_40_code e.1 = .ok e.2)) = true := by decide +kernel
set_option maxRecDepth 100000 in
theorem dk_106 : cd_106.all (fun e => decide (decode prog_1_method_41_code e.1 = .ok e.2)) = true := by decide +kernel
set_option maxRecDepth 100000 in
theorem dk_107 : cd_107.all (fun e => decide (decode prog_15_method_66_code e.1 = .ok e.2)) = true := by decide +kernel
set_option maxRecDepth 100000 in
theorem dk_108 : cd_108.all (fun e => decide (decode prog_10_method_1_code e.1 = .ok e.2)) = true := by decide +kernel
set_option maxRecDepth 100000 in
theorem dk_109 : cd_109.all (fun e => decide (decode prog_10_method_2_code e.1 = .ok e.2)) = true := by decide +kernel
set_option maxRecDepth 100000 in
theorem dk_110 : cd_110.all (fun e => decide (decode prog_10_method_29_code e.1 = .ok e.2)) = true := by decide +kernel
set_option maxRecDepth 100000 in
theorem dk_111 : cd_111.all (fun e => decide (decode prog_10_method_28_code e.1 = .ok e.2)) = true := by decide +kernel
set_option maxRecDepth 100000 in
theorem dk_112 : cd_112.all (fun e => decide (decode prog_10_method_30_code e.1 = .ok e.2)) = true := by decide +kernel
set_option maxRecDepth 100000 in
theorem dk_113 : cd_113.all (fun e => decide (decode prog_10_method_31_code e.1 = .ok e.2)) = true := by decide +kernel
set_option maxRecDepth 100000 in
theorem dk_114 : cd_114.all (fun e => decide (decode prog_10_method_3_code e.1 = .ok e.2)) = true := by decide +kernel
set_option maxRecDepth 100000 in
theorem dk_115 : cd_115.all (fun e => decide (decode prog_10_method_26_code e.1 = .ok e.2)) = true := by decide +kernel
set_option maxRecDepth 100000 in
theorem dk_116 : cd_116.all (fun e => decide (decode prog_10_method_18_code e.1 = .ok e.2)) = true := by decide +kernel
set_option maxRecDepth 100000 in
theorem dk_117 : cd_117.all (fun e => decide (decode prog_10_method_11_code e.1 = .ok e.2)) = true := by decide +kernel
set_option maxRecDepth 100000 in
theorem dk_118 : cd_118.all (fun e => decide (decode prog_10_method_6_code e.1 = .ok e.2)) = true := by decide +kernel
set_option maxRecDepth 100000 in
theorem dk_119 : cd_119.all (fun e => decide (decode prog_10_method_12_code e.1 = .ok e.2)) = true := by decide +kernel
set_option maxRecDepth 100000 in
theorem dk_120 : cd_120.all (fun e => decide (decode prog_10_method_8_code e.1 = .ok e.2)) = true := by decide +kernel
