set_option maxRecDepth 100000 in
theorem dk_121 : cd_121.all (fun e => decide (decode prog_10_method_16_code e.1 = .ok e.2)) = true := by decide +kernel
set_option maxRecDepth 100000 in
theorem dk_122 : cd_122.all (fun e => decide (decode prog_10_method_17_code e.1 = .ok e.2)) = true := by decide +kernel
set_option maxRecDepth 100000 in
theorem dk_123 : cd_123.all (fun e => decide (decode prog_10_method_7_code e.1 = .ok e.2)) = true := by decide +kernel
set_option maxRecDepth 100000 in
theorem dk_124 : cd_124.all (fun e => decide (decode prog_10_method_15_code e.1 = .ok e.2)) = true := by decide +kernel
set_option maxRecDepth 100000 in
theorem dk_125 : cd_125.all (fun e => decide (decode prog_10_method_13_code e.1 = .ok e.2)) = true := by decide +kernel
set_option maxRecDepth 100000 in
theorem dk_126 : cd_126.all (fun e => decide (decode prog_10_method_14_code e.1 = .ok e.2)) = true := by decide +kernel
set_option maxRecDepth 100000 in
theorem dk_127 : cd_127.all (fun e => decide (decode prog_10_method_23_code e.1 = .ok e.2)) = true := by decide +kernel
set_option maxRecDepth 100000 in
theorem dk_128 : cd_128.all (fun e => decide (decode prog_10_method_20_code e.1 = .ok e.2)) = true := by decide +kernel
set_option maxRecDepth 100000 in
theorem dk_129 : cd_129.all (fun e => decide (decode prog_10_method_21_code e.1 = .ok e.2)) = true := by decide +kernel
set_option maxRecDepth 100000 in
theorem dk_130 : cd_130.all (fun e => decide (decode prog_10_method_22_code e.1 = .ok e.2)) = true := by decide +kernel
set_option maxRecDepth 100000 in
theorem dk_131 : cd_131.all (fun e => decide (decode prog_10_method_10_code e.1 = .ok e.2)) = true := by decide +kernel
set_option maxRecDepth 100000 in
theorem dk_132 : cd_132.all (fun e => decide (decode prog_10_method_24_code e.1 = .ok e.2)) = true := by decide +kernel
set_option maxRecDepth 100000 in
theorem dk_133 : cd_133.all (fun e => decide (decode prog_10_method_25_code e.1 = .ok e.2)) = true := by decide +kernel
set_option maxRecDepth 100000 in
theorem dk_134 : cd_134.all (fun e => decide (decode prog_10_method_5_code e.1 = .ok e.2)) = true := by decide +kernel
set_option maxRecDepth 100000 in
theorem dk_135 : cd_135.all (fun e => decide (decode prog_10_method_4_code e.1 = .ok e.2)) = true := by decide +kernel
set_option maxRecDepth 100000 in
theorem dk_136 : cd_136.all (fun e => decide (decode prog_10_method_27_code e.1 = .ok e.2)) = true := by decide +kernel
set_option maxRecDepth 100000 in
theorem dk_137 : cd_137.all (fun e => decide (decode prog_10_method_34_code e.1 = .ok e.2)) = true := by decide +kernel
set_option maxRecDepth 100000 in
theorem dk_138 : cd_138.all (fun e => decide (decode prog_10_method_19_code e.1 = .ok e.2)) = true := by decide +kernel
set_option maxRecDepth 100000 in
theorem dk_139 : cd_139.all (fun e => decide (decode prog_10_method_32_code e.1 = .ok e.2)) = true := by decide +kernel
set_option maxRecDepth 100000 in
theorem dk_140 : cd_140.all (fun e => decide (decode prog_10_method_33_code e.1 = .ok e.2)) = true := by decide +kernel
set_option maxRecDepth 100000 in
theorem dk_141 : cd_141.all (fun e => decide (decode prog_10_method_35_code e.1 = .ok e.2)) = true := by decide +kernel
set_option maxRecDepth 100000 in
theorem dk_142 : cd_142.all (fun e => decide (decode prog_10_method_36_code e.1 = .ok e.2)) = true := by decide +kernel
