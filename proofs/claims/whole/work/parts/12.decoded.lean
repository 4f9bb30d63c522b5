theorem dk_r0 : ∀ j, 0 ≤ j → j < 20 → ckD j = true := by
  intro j h1 h2
  have h3 : j = 0 ∨ j = 1 ∨ j = 2 ∨ j = 3 ∨ j = 4 ∨ j = 5 ∨ j = 6 ∨ j = 7 ∨ j = 8 ∨ j = 9 ∨ j = 10 ∨ j = 11 ∨ j = 12 ∨ j = 13 ∨ j = 14 ∨ j = 15 ∨ j = 16 ∨ j = 17 ∨ j = 18 ∨ j = 19 := by omega
  rcases h3 with rfl | rfl | rfl | rfl | rfl | rfl | rfl | rfl | rfl | rfl | rfl | rfl | rfl | rfl | rfl | rfl | rfl | rfl | rfl | rfl
  · exact dk_0
  · exact dk_1
  · exact dk_2
  · exact dk_3
  · exact dk_4
  · exact dk_5
  · exact dk_6
  · exact dk_7
  · exact dk_8
  · exact dk_9
  · exact dk_10
  · exact dk_11
  · exact dk_12
  · exact dk_13
  · exact dk_14
  · exact dk_15
  · exact dk_16
  · exact dk_17
  · exact dk_18
  · exact dk_19
theorem dk_r1 : ∀ j, 20 ≤ j → j < 40 → ckD j = true := by
  intro j h1 h2
  have h3 : j = 20 ∨ j = 21 ∨ j = 22 ∨ j = 23 ∨ j = 24 ∨ j = 25 ∨ j = 26 ∨ j = 27 ∨ j = 28 ∨ j = 29 ∨ j = 30 ∨ j = 31 ∨ j = 32 ∨ j = 33 ∨ j = 34 ∨ j = 35 ∨ j = 36 ∨ j = 37 ∨ j = 38 ∨ j = 39 := by omega
  rcases h3 with rfl | rfl | rfl | rfl | rfl | rfl | rfl | rfl | rfl | rfl | rfl | rfl | rfl | rfl | rfl | rfl | rfl | rfl | rfl | rfl
  · exact dk_20
  · exact dk_21
  · exact dk_22
  · exact dk_23
  · exact dk_24
  · exact dk_25
  · exact dk_26
  · exact dk_27
  · exact dk_28
  · exact dk_29
  · exact dk_30
  · exact dk_31
  · exact dk_32
  · exact dk_33
  · exact dk_34
  · exact dk_35
  · exact dk_36
  · exact dk_37
  · exact dk_38
  · exact dk_39
theorem dk_r2 : ∀ j, 40 ≤ j → j < 60 → ckD j = true := by
  intro j h1 h2
  have h3 : j = 40 ∨ j = 41 ∨ j = 42 ∨ j = 43 ∨ j = 44 ∨ j = 45 ∨ j = 46 ∨ j = 47 ∨ j = 48 ∨ j = 49 ∨ j = 50 ∨ j = 51 ∨ j = 52 ∨ j = 53 ∨ j = 54 ∨ j = 55 ∨ j = 56 ∨ j = 57 ∨ j = 58 ∨ j = 59 := by omega
  rcases h3 with rfl | rfl | rfl | rfl | rfl | rfl | rfl | rfl | rfl | rfl | rfl | rfl | rfl | rfl | rfl | rfl | rfl | rfl | rfl | rfl
  · exact dk_40
  · exact dk_41
  · exact dk_42
  · exact dk_43
  · exact dk_44
  · exact dk_45
  · exact dk_46
  · exact dk_47
  · exact dk_48
  · exact dk_49
  · exact dk_50
  · exact dk_51
  · exact dk_52
  · exact dk_53
  · exact dk_54
  · exact dk_55
  · exact dk_56
  · exact dk_57
  · exact dk_58
  · exact dk_59
theorem dk_r3 : ∀ j, 60 ≤ j → j < 80 → ckD j = true := by
  intro j h1 h2
  have h3 : j = 60 ∨ j = 61 ∨ j = 62 ∨ j = 63 ∨ j = 64 ∨ j = 65 ∨ j = 66 ∨ j = 67 ∨ j = 68 ∨ j = 69 ∨ j = 70 ∨ j = 71 ∨ j = 72 ∨ j = 73 ∨ j = 74 ∨ j = 75 ∨ j = 76 ∨ j = 77 ∨ j = 78 ∨ j = 79 := by omega
  rcases h3 with rfl | rfl | rfl | rfl | rfl | rfl | rfl | rfl | rfl | rfl | rfl | rfl | rfl | rfl | rfl | rfl | rfl | rfl | rfl | rfl
  · exact dk_60
  · exact dk_61
  · exact dk_62
  · exact dk_63
  · exact dk_64
  · exact dk_65
  · exact dk_66
  · exact dk_67
  · exact dk_68
  · exact dk_69
  · exact dk_70
  · exact dk_71
  · exact dk_72
  · exact dk_73
  · exact dk_74
  · exact dk_75
  · exact dk_76
  · exact dk_77
  · exact dk_78
  · exact dk_79
theorem dk_r4 : ∀ j, 80 ≤ j → j < 100 → ckD j = true := by
  intro j h1 h2
  have h3 : j = 80 ∨ j = 81 ∨ j = 82 ∨ j = 83 ∨ j = 84 ∨ j = 85 ∨ j = 86 ∨ j = 87 ∨ j = 88 ∨ j = 89 ∨ j = 90 ∨ j = 91 ∨ j = 92 ∨ j = 93 ∨ j = 94 ∨ j = 95 ∨ j = 96 ∨ j = 97 ∨ j = 98 ∨ j = 99 := by omega
  rcases h3 with rfl | rfl | rfl | rfl | rfl | rfl | rfl | rfl | rfl | rfl | rfl | rfl | rfl | rfl | rfl | rfl | rfl | rfl | rfl | rfl
  · exact dk_80
  · exact dk_81
  · exact dk_82
  · exact dk_83
  · exact dk_84
  · exact dk_85
  · exact dk_86
  · exact dk_87
  · exact dk_88
  · exact dk_89
  · exact dk_90
  · exact dk_91
  · exact dk_92
  · exact dk_93
  · exact dk_94
  · exact dk_95
  · exact dk_96
  · exact dk_97
  · exact dk_98
  · exact dk_99
theorem dk_r5 : ∀ j, 100 ≤ j → j < 120 → ckD j = true := by
  intro j h1 h2
  have h3 : j = 100 ∨ j = 101 ∨ j = 102 ∨ j = 103 ∨ j = 104 ∨ j = 105 ∨ j = 106 ∨ j = 107 ∨ j = 108 ∨ j = 109 ∨ j = 110 ∨ j = 111 ∨ j = 112 ∨ j = 113 ∨ j = 114 ∨ j = 115 ∨ j = 116 ∨ j = 117 ∨ j = 118 ∨ j = 119 := by omega
  rcases h3 with rfl | rfl | rfl | rfl | rfl | rfl | rfl | rfl | rfl | rfl | rfl | rfl | rfl | rfl | rfl | rfl | rfl | rfl | rfl | rfl
  · exact dk_100
  · exact dk_101
  · exact dk_102
  · exact dk_103
  · exact dk_104
  · exact dk_105
  · exact dk_106
  · exact dk_107
  · exact dk_108
  · exact dk_109
  · exact dk_110
  · exact dk_111
  · exact dk_112
  · exact dk_113
  · exact dk_114
  · exact dk_115
  · exact dk_116
  · exact dk_117
  · exact dk_118
  · exact dk_119
theorem dk_r6 : ∀ j, 120 ≤ j → j < 140 → ckD j = true := by
  intro j h1 h2
  have h3 : j = 120 ∨ j = 121 ∨ j = 122 ∨ j = 123 ∨ j = 124 ∨ j = 125 ∨ j = 126 ∨ j = 127 ∨ j = 128 ∨ j = 129 ∨ j = 130 ∨ j = 131 ∨ j = 132 ∨ j = 133 ∨ j = 134 ∨ j = 135 ∨ j = 136 ∨ j = 137 ∨ j = 138 ∨ j = 139 := by omega
  rcases h3 with rfl | rfl | rfl | rfl | rfl | rfl | rfl | rfl | rfl | rfl | rfl | rfl | rfl | rfl | rfl | rfl | rfl | rfl | rfl | rfl
  · exact dk_120
  · exact dk_121
  · exact dk_122
  · exact dk_123
  · exact dk_124
  · exact dk_125
  · exact dk_126
  · exact dk_127
  · exact dk_128
  · exact dk_129
  · exact dk_130
  · exact dk_131
  · exact dk_132
  · exact dk_133
  · exact dk_134
  · exact dk_135
  · exact dk_136
  · exact dk_137
  · exact dk_138
  · exact dk_139
theorem dk_r7 : ∀ j, 140 ≤ j → j < 160 → ckD j = true := by
  intro j h1 h2
  have h3 : j = 140 ∨ j = 141 ∨ j = 142 ∨ j = 143 ∨ j = 144 ∨ j = 145 ∨ j = 146 ∨ j = 147 ∨ j = 148 ∨ j = 149 ∨ j = 150 ∨ j = 151 ∨ j = 152 ∨ j = 153 ∨ j = 154 ∨ j = 155 ∨ j = 156 ∨ j = 157 ∨ j = 158 ∨ j = 159 := by omega
  rcases h3 with rfl | rfl | rfl | rfl | rfl | rfl | rfl | rfl | rfl | rfl | rfl | rfl | rfl | rfl | rfl | rfl | rfl | rfl | rfl | rfl
  · exact dk_140
  · exact dk_141
  · exact dk_142
  · exact dk_143
  · exact dk_144
  · exact dk_145
  · exact dk_146
  · exact dk_147
  · exact dk_148
  · exact dk_149
  · exact dk_150
  · exact dk_151
  · exact dk_152
  · exact dk_153
  · exact dk_154
  · exact dk_155
  · exact dk_156
  · exact dk_157
  · exact dk_158
  · exact dk_159
theorem dk_r8 : ∀ j, 160 ≤ j → j < 162 → ckD j = true := by
  intro j h1 h2
  have h3 : j = 160 ∨ j = 161 := by omega
  rcases h3 with rfl | rfl
  · exact dk_160
  · exact dk_161
theorem dk_all : ∀ j, j < 162 → ckD j = true := by
  intro j h
  by_cases h0 : j < 20
  · exact dk_r0 j (by omega) h0
  by_cases h1 : j < 40
  · exact dk_r1 j (by omega) h1
  by_cases h2 : j < 60
  · exact dk_r2 j (by omega) h2
  by_cases h3 : j < 80
  · exact dk_r3 j (by omega) h3
  by_cases h4 : j < 100
  · exact dk_r4 j (by omega) h4
  by_cases h5 : j < 120
  · exact dk_r5 j (by omega) h5
  by_cases h6 : j < 140
  · exact dk_r6 j (by omega) h6
  by_cases h7 : j < 160
  · exact dk_r7 j (by omega) h7
  by_cases h8 : j < 162
  · exact dk_r8 j (by omega) h8
  omega
