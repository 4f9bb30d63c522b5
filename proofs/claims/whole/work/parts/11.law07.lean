set_option maxRecDepth 100000 in
theorem dk_161_7 : cd_161_7.all (fun e => decide (decode code e.1 = .ok e.2)) = true := by decide +kernel
