/-! Each method's instructions are those that its code decodes to. -/
def ckD (j : Nat) : Bool := (tbCd.getD j []).all fun e => decide (decode (mPb tbP j) e.1 = .ok e.2)
set_option maxRecDepth 100000 in
theorem dk_0 : cd_0.all (fun e => decide (decode prog_1_method_1_code e.1 = .ok e.2)) = true := by decide +kernel
set_option maxRecDepth 100000 in
theorem dk_1 : cd_1.all (fun e => decide (decode prog_3_method_1_code e.1 = .ok e.2)) = true := by decide +kernel
set_option maxRecDepth 100000 in
theorem dk_2 : cd_2.all (fun e => decide (decode prog_6_method_1_code e.1 = .ok e.2)) = true := by decide +kernel
set_option maxRecDepth 100000 in
theorem dk_3 : cd_3.all (fun e => decide (decode prog_2_method_1_code e.1 = .ok e.2)) = true := by decide +kernel
set_option maxRecDepth 100000 in
theorem dk_4 : cd_4.all (fun e => decide (decode prog_7_method_1_code e.1 = .ok e.2)) = true := by decide +kernel
set_option maxRecDepth 100000 in
theorem dk_5 : cd_5.all (fun e => decide (decode prog_4_method_1_code e.1 = .ok e.2)) = true := by decide +kernel
set_option maxRecDepth 100000 in
theorem dk_6 : cd_6.all (fun e => decide (decode prog_8_method_1_code e.1 = .ok e.2)) = true := by decide +kernel
set_option maxRecDepth 100000 in
theorem dk_7 : cd_7.all (fun e => decide (decode prog_5_method_1_code e.1 = .ok e.2)) = true := by decide +kernel
set_option maxRecDepth 100000 in
theorem dk_8 : cd_8.all (fun e => decide (decode prog_1_method_25_code e.1 = .ok e.2)) = true := by decide +kernel
set_option maxRecDepth 100000 in
theorem dk_9 : cd_9.all (fun e => decide (decode prog_20_method_103_code e.1 = .ok e.2)) = true := by decide +kernel
set_option maxRecDepth 100000 in
theorem dk_10 : cd_10.all (fun e => decide (decode prog_4_method_2_code e.1 = .ok e.2)) = true := by decide +kernel
set_option maxRecDepth 100000 in
theorem dk_11 : cd_11.all (fun e => decide (decode prog_1_method_2_code e.1 = .ok e.2)) = true := by decide +kernel
set_option maxRecDepth 100000 in
theorem dk_12 : cd_12.all (fun e => decide (decode prog_7_method_2_code e.1 = .ok e.2)) = true := by decide +kernel
set_option maxRecDepth 100000 in
theorem dk_13 : cd_13.all (fun e => decide (decode prog_1_method_3_code e.1 = .ok e.2)) = true := by decide +kernel
set_option maxRecDepth 100000 in
theorem dk_14 : cd_14.all (fun e => decide (decode prog_1_method_12_code e.1 = .ok e.2)) = true := by decide +kernel
set_option maxRecDepth 100000 in
theorem dk_15 : cd_15.all (fun e => decide (decode prog_3_method_10_code e.1 = .ok e.2)) = true := by decide +kernel
set_option maxRecDepth 100000 in
theorem dk_16 : cd_16.all (fun e => decide (decode prog_1_method_13_code e.1 = .ok e.2)) = true := by decide +kernel
set_option maxRecDepth 100000 in
theorem dk_17 : cd_17.all (fun e => decide (decode prog_3_method_12_code e.1 = .ok e.2)) = true := by decide +kernel
set_option maxRecDepth 100000 in
theorem dk_18 : cd_18.all (fun e => decide (decode prog_1_method_46_code e.1 = .ok e.2)) = true := by decide +kernel
set_option maxRecDepth 100000 in
theorem dk_19 : cd_19.all (fun e => decide (decode prog_3_method_7_code e.1 = .ok e.2)) = true := by decide +kernel
set_option maxRecDepth 100000 in
theorem dk_20 : cd_20.all (fun e => decide (decode prog_3_method_4_code e.1 = .ok e.2)) = true := by decide +kernel
set_option maxRecDepth 100000 in
theorem dk_21 : cd_21.all (fun e => decide (decode prog_3_method_2_code e.1 = .ok e.2)) = true := by decide +kernel
set_option maxRecDepth 100000 in
theorem dk_22 : cd_22.all (fun e => decide (decode prog_3_method_6_code e.1 = .ok e.2)) = true := by decide +kernel
set_option maxRecDepth 100000 in
theorem dk_23 : cd_23.all (fun e => decide (decode prog_3_method_5_code e.1 = .ok e.2)) = true := by decide +kernel
set_option maxRecDepth 100000 in
theorem dk_24 : cd_24.all (fun e => decide (decode prog_1_method_32_code e.1 = .ok e.2)) = true := by decide +kernel
set_option maxRecDepth 100000 in
theorem dk_25 : cd_25.all (fun e => decide (decode prog_5_method_3_code e.1 = .ok e.2)) = true := by decide +kernel
set_option maxRecDepth 100000 in
theorem dk_26 : cd_26.all (fun e => decide (decode prog_5_method_5_code e.1 = .ok e.2)) = true := by decide +kernel
set_option maxRecDepth 100000 in
theorem dk_27 : cd_27.all (fun e => decide (decode prog_5_method_4_code e.1 = .ok e.2)) = true := by decide +kernel
set_option maxRecDepth 100000 in
theorem dk_28 : cd_28.all (fun e => decide (decode prog_1_method_33_code e.1 = .ok e.2)) = true := by decide +kernel
set_option maxRecDepth 100000 in
theorem dk_29 : cd_29.all (fun e => decide (decode prog_3_method_11_code e.1 = .ok e.2)) = true := by decide +kernel
set_option maxRecDepth 100000 in
theorem dk_30 : cd_30.all (fun e => decide (decode prog_3_method_13_code e.1 = .ok e.2)) = true := by decide +kernel
set_option maxRecDepth 100000 in
theorem dk_31 : cd_31.all (fun e => decide (decode prog_3_method_14_code e.1 = .ok e.2)) = true := by decide +kernel
set_option maxRecDepth 100000 in
theorem dk_32 : cd_32.all (fun e => decide (decode prog_5_method_2_code e.1 = .ok e.2)) = true := by decide +kernel
set_option maxRecDepth 100000 in
theorem dk_33 : cd_33.all (fun e => decide (decode prog_1_method_47_code e.1 = .ok e.2)) = true := by decide +kernel
set_option maxRecDepth 100000 in
theorem dk_34 : cd_34.all (fun e => decide (decode prog_4_method_4_code e.1 = .ok e.2)) = true := by decide +kernel
set_option maxRecDepth 100000 in
theorem dk_35 : cd_35.all (fun e => decide (decode prog_1_method_48_code e.1 = .ok e.2)) = true := by decide +kernel
set_option maxRecDepth 100000 in
theorem dk_36 : cd_36.all (fun e => decide (decode prog_6_method_2_code e.1 = .ok e.2)) = true := by decide +kernel
set_option maxRecDepth 100000 in
theorem dk_37 : cd_37.all (fun e => decide (decode prog_3_method_3_code e.1 = .ok e.2)) = true := by decide +kernel
set_option maxRecDepth 100000 in
theorem dk_38 : cd_38.all (fun e => decide (decode prog_15_method_69_code e.1 = .ok e.2)) = true := by decide +kernel
