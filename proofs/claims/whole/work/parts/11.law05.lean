set_option maxRecDepth 100000 in
theorem dk_161_5 : cd_161_5.all (fun e => decide (decode code e.1 = .ok e.2)) = true := by decide +kernel
