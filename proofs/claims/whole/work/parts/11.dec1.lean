set_option maxRecDepth 100000 in
theorem dk_39 : cd_39.all (fun e => decide (decode prog_6_method_3_code e.1 = .ok e.2)) = true := by decide +kernel
set_option maxRecDepth 100000 in
theorem dk_40 : cd_40.all (fun e => decide (decode prog_6_method_5_code e.1 = .ok e.2)) = true := by decide +kernel
set_option maxRecDepth 100000 in
theorem dk_41 : cd_41.all (fun e => decide (decode prog_6_method_6_code e.1 = .ok e.2)) = true := by decide +kernel
set_option maxRecDepth 100000 in
theorem dk_42 : cd_42.all (fun e => decide (decode prog_1_method_21_code e.1 = .ok e.2)) = true := by decide +kernel
set_option maxRecDepth 100000 in
theorem dk_43 : cd_43.all (fun e => decide (decode prog_2_method_2_code e.1 = .ok e.2)) = true := by decide +kernel
set_option maxRecDepth 100000 in
theorem dk_44 : cd_44.all (fun e => decide (decode prog_6_method_4_code e.1 = .ok e.2)) = true := by decide +kernel
set_option maxRecDepth 100000 in
theorem dk_45 : cd_45.all (fun e => decide (decode prog_1_method_49_code e.1 = .ok e.2)) = true := by decide +kernel
set_option maxRecDepth 100000 in
theorem dk_46 : cd_46.all (fun e => decide (decode prog_4_method_8_code e.1 = .ok e.2)) = true := by decide +kernel
set_option maxRecDepth 100000 in
theorem dk_47 : cd_47.all (fun e => decide (decode prog_1_method_14_code e.1 = .ok e.2)) = true := by decide +kernel
set_option maxRecDepth 100000 in
theorem dk_48 : cd_48.all (fun e => decide (decode prog_1_method_18_code e.1 = .ok e.2)) = true := by decide +kernel
set_option maxRecDepth 100000 in
theorem dk_49 : cd_49.all (fun e => decide (decode prog_1_method_38_code e.1 = .ok e.2)) = true := by decide +kernel
set_option maxRecDepth 100000 in
theorem dk_50 : cd_50.all (fun e => decide (decode prog_1_method_39_code e.1 = .ok e.2)) = true := by decide +kernel
set_option maxRecDepth 100000 in
theorem dk_51 : cd_51.all (fun e => decide (decode prog_4_method_3_code e.1 = .ok e.2)) = true := by decide +kernel
set_option maxRecDepth 100000 in
theorem dk_52 : cd_52.all (fun e => decide (decode prog_1_method_15_code e.1 = .ok e.2)) = true := by decide +kernel
set_option maxRecDepth 100000 in
theorem dk_53 : cd_53.all (fun e => decide (decode prog_4_method_6_code e.1 = .ok e.2)) = true := by decide +kernel
set_option maxRecDepth 100000 in
theorem dk_54 : cd_54.all (fun e => decide (decode prog_1_method_16_code e.1 = .ok e.2)) = true := by decide +kernel
set_option maxRecDepth 100000 in
theorem dk_55 : cd_55.all (fun e => decide (decode prog_1_method_17_code e.1 = .ok e.2)) = true := by decide +kernel
set_option maxRecDepth 100000 in
theorem dk_56 : cd_56.all (fun e => decide (decode prog_3_method_9_code e.1 = .ok e.2)) = true := by decide +kernel
set_option maxRecDepth 100000 in
theorem dk_57 : cd_57.all (fun e => decide (decode method_3_code e.1 = .ok e.2)) = true := by decide +kernel
set_option maxRecDepth 100000 in
theorem dk_58 : cd_58.all (fun e => decide (decode prog_1_method_4_code e.1 = .ok e.2)) = true := by decide +kernel
set_option maxRecDepth 100000 in
theorem dk_59 : cd_59.all (fun e => decide (decode prog_1_method_26_code e.1 = .ok e.2)) = true := by decide +kernel
set_option maxRecDepth 100000 in
theorem dk_60 : cd_60.all (fun e => decide (decode prog_1_method_22_code e.1 = .ok e.2)) = true := by decide +kernel
set_option maxRecDepth 100000 in
theorem dk_61 : cd_61.all (fun e => decide (decode prog_4_method_7_code e.1 = .ok e.2)) = true := by decide +kernel
set_option maxRecDepth 100000 in
theorem dk_62 : cd_62.all (fun e => decide (decode prog_1_method_24_code e.1 = .ok e.2)) = true := by decide +kernel
set_option maxRecDepth 100000 in
theorem dk_63 : cd_63.all (fun e => decide (decode prog_1_method_27_code e.1 = .ok e.2)) = true := by decide +kernel
set_option maxRecDepth 100000 in
theorem dk_64 : cd_64.all (fun e => decide (decode prog_7_method_4_code e.1 = .ok e.2)) = true := by decide +kernel
set_option maxRecDepth 100000 in
theorem dk_65 : cd_65.all (fun e => decide (decode prog_1_method_28_code e.1 = .ok e.2)) = true := by decide +kernel
set_option maxRecDepth 100000 in
theorem dk_66 : cd_66.all (fun e => decide (decode prog_1_method_29_code e.1 = .ok e.2)) = true := by decide +kernel
set_option maxRecDepth 100000 in
theorem dk_67 : cd_67.all (fun e => decide (decode prog_2_method_3_code e.1 = .ok e.2)) = true := by decide +kernel
