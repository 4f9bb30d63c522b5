set_option maxRecDepth 100000 in
theorem dk_158 : cd_158.all (fun e => decide (decode prog_10_method_51_code e.1 = .ok e.2)) = true := by decide +kernel
set_option maxRecDepth 100000 in
theorem dk_159 : cd_159.all (fun e => decide (decode prog_10_method_52_code e.1 = .ok e.2)) = true := by decide +kernel
set_option maxRecDepth 100000 in
theorem dk_160 : cd_160.all (fun e => decide (decode prog_10_method_53_code e.1 = .ok e.2)) = true := by decide +kernel
