set_option maxRecDepth 100000 in
theorem dk_143 : cd_143.all (fun e => decide (decode prog_10_method_38_code e.1 = .ok e.2)) = true := by decide +kernel
set_option maxRecDepth 100000 in
theorem dk_144 : cd_144.all (fun e => decide (decode prog_10_method_37_code e.1 = .ok e.2)) = true := by decide +kernel
set_option maxRecDepth 100000 in
theorem dk_145 : cd_145.all (fun e => decide (decode prog_10_method_39_code e.1 = .ok e.2)) = true := by decide +kernel
set_option maxRecDepth 100000 in
theorem dk_146 : cd_146.all (fun e => decide (decode prog_10_method_43_code e.1 = .ok e.2)) = true := by decide +kernel
set_option maxRecDepth 100000 in
theorem dk_147 : cd_147.all (fun e => decide (decode prog_10_method_42_code e.1 = .ok e.2)) = true := by decide +kernel
set_option maxRecDepth 100000 in
theorem dk_148 : cd_148.all (fun e => decide (decode prog_10_method_41_code e.1 = .ok e.2)) = true := by decide +kernel
set_option maxRecDepth 100000 in
theorem dk_149 : cd_149.all (fun e => decide (decode prog_10_method_40_code e.1 = .ok e.2)) = true := by decide +kernel
set_option maxRecDepth 100000 in
theorem dk_150 : cd_150.all (fun e => decide (decode prog_10_method_9_code e.1 = .ok e.2)) = true := by decide +kernel
set_option maxRecDepth 100000 in
theorem dk_151 : cd_151.all (fun e => decide (decode prog_10_method_45_code e.1 = .ok e.2)) = true := by decide +kernel
set_option maxRecDepth 100000 in
theorem dk_152 : cd_152.all (fun e => decide (decode prog_10_method_44_code e.1 = .ok e.2)) = true := by decide +kernel
set_option maxRecDepth 100000 in
theorem dk_153 : cd_153.all (fun e => decide (decode prog_10_method_46_code e.1 = .ok e.2)) = true := by decide +kernel
set_option maxRecDepth 100000 in
theorem dk_154 : cd_154.all (fun e => decide (decode prog_10_method_48_code e.1 = .ok e.2)) = true := by decide +kernel
set_option maxRecDepth 100000 in
theorem dk_155 : cd_155.all (fun e => decide (decode prog_10_method_47_code e.1 = .ok e.2)) = true := by decide +kernel
set_option maxRecDepth 100000 in
theorem dk_156 : cd_156.all (fun e => decide (decode prog_10_method_50_code e.1 = .ok e.2)) = true := by decide +kernel
set_option maxRecDepth 100000 in
theorem dk_157 : cd_157.all (fun e => decide (decode prog_10_method_49_code e.1 = .ok e.2)) = true := by decide +kernel
