theorem dk_161 : cd_161.all (fun e => decide (decode code e.1 = .ok e.2)) = true := by
  unfold cd_161
  simp only [List.all_append, dk_161_0, dk_161_1, dk_161_2, dk_161_3, dk_161_4, dk_161_5, dk_161_6, dk_161_7, dk_161_8, dk_161_9, dk_161_10, dk_161_11, dk_161_12, Bool.and_self]
