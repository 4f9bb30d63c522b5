/-! Each method's code word, by its place among the tables' words. -/
def cwP (j : Nat) : Prop := (mPh tbP j = [] ∧ Cond.code (tbY j) (mPb tbP j) (mPl tbP j) (mPr tbP j) ∈ WTs) ∨ (mPh tbP j ≠ [] ∧ Cond.codeWith (tbY j) (mPb tbP j) (mPl tbP j) (mPr tbP j) (mPh tbP j) ∈ WTs)
theorem cw_in {i : Nat} {w : Cond} (h : lw_tbl[i]? = some w) (hm : mtrB w = true) : w ∈ WTs := List.mem_filter.mpr ⟨List.mem_of_getElem? h, hm⟩
set_option maxRecDepth 100000 in
theorem cw_0 : cwP 0 := Or.inl ⟨rfl, cw_in (i := 90) rfl rfl⟩
set_option maxRecDepth 100000 in
theorem cw_1 : cwP 1 := Or.inl ⟨rfl, cw_in (i := 98) rfl rfl⟩
set_option maxRecDepth 100000 in
theorem cw_2 : cwP 2 := Or.inl ⟨rfl, cw_in (i := 123) rfl rfl⟩
set_option maxRecDepth 100000 in
theorem cw_3 : cwP 3 := Or.inl ⟨rfl, cw_in (i := 129) rfl rfl⟩
set_option maxRecDepth 100000 in
theorem cw_4 : cwP 4 := Or.inl ⟨rfl, cw_in (i := 135) rfl rfl⟩
set_option maxRecDepth 100000 in
theorem cw_5 : cwP 5 := Or.inl ⟨rfl, cw_in (i := 223) rfl rfl⟩
set_option maxRecDepth 100000 in
theorem cw_6 : cwP 6 := Or.inl ⟨rfl, cw_in (i := 264) rfl rfl⟩
set_option maxRecDepth 100000 in
theorem cw_7 : cwP 7 := Or.inl ⟨rfl, cw_in (i := 285) rfl rfl⟩
set_option maxRecDepth 100000 in
theorem cw_8 : cwP 8 := Or.inl ⟨rfl, cw_in (i := 299) rfl rfl⟩
set_option maxRecDepth 100000 in
theorem cw_9 : cwP 9 := Or.inl ⟨rfl, cw_in (i := 302) rfl rfl⟩
set_option maxRecDepth 100000 in
theorem cw_10 : cwP 10 := Or.inl ⟨rfl, cw_in (i := 306) rfl rfl⟩
set_option maxRecDepth 100000 in
theorem cw_11 : cwP 11 := Or.inl ⟨rfl, cw_in (i := 348) rfl rfl⟩
set_option maxRecDepth 100000 in
theorem cw_12 : cwP 12 := Or.inl ⟨rfl, cw_in (i := 352) rfl rfl⟩
set_option maxRecDepth 100000 in
theorem cw_13 : cwP 13 := Or.inl ⟨rfl, cw_in (i := 356) rfl rfl⟩
set_option maxRecDepth 100000 in
theorem cw_14 : cwP 14 := Or.inl ⟨rfl, cw_in (i := 360) rfl rfl⟩
set_option maxRecDepth 100000 in
theorem cw_15 : cwP 15 := Or.inl ⟨rfl, cw_in (i := 364) rfl rfl⟩
set_option maxRecDepth 100000 in
theorem cw_16 : cwP 16 := Or.inl ⟨rfl, cw_in (i := 368) rfl rfl⟩
set_option maxRecDepth 100000 in
theorem cw_17 : cwP 17 := Or.inl ⟨rfl, cw_in (i := 372) rfl rfl⟩
set_option maxRecDepth 100000 in
theorem cw_18 : cwP 18 := Or.inl ⟨rfl, cw_in (i := 376) rfl rfl⟩
set_option maxRecDepth 100000 in
theorem cw_19 : cwP 19 := Or.inl ⟨rfl, cw_in (i := 380) rfl rfl⟩
set_option maxRecDepth 100000 in
theorem cw_20 : cwP 20 := Or.inl ⟨rfl, cw_in (i := 384) rfl rfl⟩
set_option maxRecDepth 100000 in
theorem cw_21 : cwP 21 := Or.inl ⟨rfl, cw_in (i := 388) rfl rfl⟩
set_option maxRecDepth 100000 in
theorem cw_22 : cwP 22 := Or.inl ⟨rfl, cw_in (i := 392) rfl rfl⟩
set_option maxRecDepth 100000 in
theorem cw_23 : cwP 23 := Or.inl ⟨rfl, cw_in (i := 396) rfl rfl⟩
set_option maxRecDepth 100000 in
theorem cw_24 : cwP 24 := Or.inl ⟨rfl, cw_in (i := 400) rfl rfl⟩
set_option maxRecDepth 100000 in
theorem cw_25 : cwP 25 := Or.inl ⟨rfl, cw_in (i := 404) rfl rfl⟩
set_option maxRecDepth 100000 in
theorem cw_26 : cwP 26 := Or.inl ⟨rfl, cw_in (i := 409) rfl rfl⟩
set_option maxRecDepth 100000 in
theorem cw_27 : cwP 27 := Or.inl ⟨rfl, cw_in (i := 413) rfl rfl⟩
set_option maxRecDepth 100000 in
theorem cw_28 : cwP 28 := Or.inl ⟨rfl, cw_in (i := 417) rfl rfl⟩
set_option maxRecDepth 100000 in
theorem cw_29 : cwP 29 := Or.inl ⟨rfl, cw_in (i := 421) rfl rfl⟩
set_option maxRecDepth 100000 in
theorem cw_30 : cwP 30 := Or.inl ⟨rfl, cw_in (i := 425) rfl rfl⟩
set_option maxRecDepth 100000 in
theorem cw_31 : cwP 31 := Or.inl ⟨rfl, cw_in (i := 498) rfl rfl⟩
set_option maxRecDepth 100000 in
theorem cw_32 : cwP 32 := Or.inl ⟨rfl, cw_in (i := 502) rfl rfl⟩
set_option maxRecDepth 100000 in
theorem cw_33 : cwP 33 := Or.inl ⟨rfl, cw_in (i := 507) rfl rfl⟩
set_option maxRecDepth 100000 in
theorem cw_34 : cwP 34 := Or.inl ⟨rfl, cw_in (i := 512) rfl rfl⟩
set_option maxRecDepth 100000 in
theorem cw_35 : cwP 35 := Or.inl ⟨rfl, cw_in (i := 516) rfl rfl⟩
set_option maxRecDepth 100000 in
theorem cw_36 : cwP 36 := Or.inl ⟨rfl, cw_in (i := 520) rfl rfl⟩
set_option maxRecDepth 100000 in
theorem cw_37 : cwP 37 := Or.inl ⟨rfl, cw_in (i := 525) rfl rfl⟩
set_option maxRecDepth 100000 in
theorem cw_38 : cwP 38 := Or.inl ⟨rfl, cw_in (i := 528) rfl rfl⟩
set_option maxRecDepth 100000 in
theorem cw_39 : cwP 39 := Or.inl ⟨rfl, cw_in (i := 532) rfl rfl⟩
set_option maxRecDepth 100000 in
theorem cw_40 : cwP 40 := Or.inl ⟨rfl, cw_in (i := 536) rfl rfl⟩
set_option maxRecDepth 100000 in
theorem cw_41 : cwP 41 := Or.inl ⟨rfl, cw_in (i := 541) rfl rfl⟩
set_option maxRecDepth 100000 in
theorem cw_42 : cwP 42 := Or.inl ⟨rfl, cw_in (i := 544) rfl rfl⟩
set_option maxRecDepth 100000 in
theorem cw_43 : cwP 43 := Or.inl ⟨rfl, cw_in (i := 548) rfl rfl⟩
set_option maxRecDepth 100000 in
theorem cw_44 : cwP 44 := Or.inl ⟨rfl, cw_in (i := 552) rfl rfl⟩
set_option maxRecDepth 100000 in
theorem cw_45 : cwP 45 := Or.inl ⟨rfl, cw_in (i := 557) rfl rfl⟩
set_option maxRecDepth 100000 in
theorem cw_46 : cwP 46 := Or.inl ⟨rfl, cw_in (i := 561) rfl rfl⟩
set_option maxRecDepth 100000 in
theorem cw_47 : cwP 47 := Or.inl ⟨rfl, cw_in (i := 565) rfl rfl⟩
set_option maxRecDepth 100000 in
theorem cw_48 : cwP 48 := Or.inl ⟨rfl, cw_in (i := 568) rfl rfl⟩
set_option maxRecDepth 100000 in
theorem cw_49 : cwP 49 := Or.inl ⟨rfl, cw_in (i := 572) rfl rfl⟩
set_option maxRecDepth 100000 in
theorem cw_50 : cwP 50 := Or.inl ⟨rfl, cw_in (i := 577) rfl rfl⟩
set_option maxRecDepth 100000 in
theorem cw_51 : cwP 51 := Or.inl ⟨rfl, cw_in (i := 581) rfl rfl⟩
set_option maxRecDepth 100000 in
theorem cw_52 : cwP 52 := Or.inl ⟨rfl, cw_in (i := 585) rfl rfl⟩
set_option maxRecDepth 100000 in
theorem cw_53 : cwP 53 := Or.inl ⟨rfl, cw_in (i := 589) rfl rfl⟩
set_option maxRecDepth 100000 in
theorem cw_54 : cwP 54 := Or.inl ⟨rfl, cw_in (i := 593) rfl rfl⟩
set_option maxRecDepth 100000 in
theorem cw_55 : cwP 55 := Or.inl ⟨rfl, cw_in (i := 598) rfl rfl⟩
set_option maxRecDepth 100000 in
theorem cw_56 : cwP 56 := Or.inl ⟨rfl, cw_in (i := 602) rfl rfl⟩
set_option maxRecDepth 100000 in
theorem cw_57 : cwP 57 := Or.inr ⟨by decide, cw_in (i := 605) rfl rfl⟩
set_option maxRecDepth 100000 in
theorem cw_58 : cwP 58 := Or.inl ⟨rfl, cw_in (i := 612) rfl rfl⟩
set_option maxRecDepth 100000 in
theorem cw_59 : cwP 59 := Or.inl ⟨rfl, cw_in (i := 616) rfl rfl⟩
set_option maxRecDepth 100000 in
theorem cw_60 : cwP 60 := Or.inl ⟨rfl, cw_in (i := 620) rfl rfl⟩
set_option maxRecDepth 100000 in
theorem cw_61 : cwP 61 := Or.inl ⟨rfl, cw_in (i := 642) rfl rfl⟩
set_option maxRecDepth 100000 in
theorem cw_62 : cwP 62 := Or.inl ⟨rfl, cw_in (i := 647) rfl rfl⟩
set_option maxRecDepth 100000 in
theorem cw_63 : cwP 63 := Or.inl ⟨rfl, cw_in (i := 667) rfl rfl⟩
set_option maxRecDepth 100000 in
theorem cw_64 : cwP 64 := Or.inl ⟨rfl, cw_in (i := 671) rfl rfl⟩
set_option maxRecDepth 100000 in
theorem cw_65 : cwP 65 := Or.inl ⟨rfl, cw_in (i := 675) rfl rfl⟩
set_option maxRecDepth 100000 in
theorem cw_66 : cwP 66 := Or.inl ⟨rfl, cw_in (i := 679) rfl rfl⟩
set_option maxRecDepth 100000 in
theorem cw_67 : cwP 67 := Or.inl ⟨rfl, cw_in (i := 683) rfl rfl⟩
set_option maxRecDepth 100000 in
theorem cw_68 : cwP 68 := Or.inl ⟨rfl, cw_in (i := 688) rfl rfl⟩
set_option maxRecDepth 100000 in
theorem cw_69 : cwP 69 := Or.inl ⟨rfl, cw_in (i := 691) rfl rfl⟩
set_option maxRecDepth 100000 in
theorem cw_70 : cwP 70 := Or.inl ⟨rfl, cw_in (i := 695) rfl rfl⟩
set_option maxRecDepth 100000 in
theorem cw_71 : cwP 71 := Or.inl ⟨rfl, cw_in (i := 699) rfl rfl⟩
set_option maxRecDepth 100000 in
theorem cw_72 : cwP 72 := Or.inl ⟨rfl, cw_in (i := 703) rfl rfl⟩
set_option maxRecDepth 100000 in
theorem cw_73 : cwP 73 := Or.inl ⟨rfl, cw_in (i := 710) rfl rfl⟩
set_option maxRecDepth 100000 in
theorem cw_74 : cwP 74 := Or.inl ⟨rfl, cw_in (i := 715) rfl rfl⟩
set_option maxRecDepth 100000 in
theorem cw_75 : cwP 75 := Or.inr ⟨by decide, cw_in (i := 718) rfl rfl⟩
set_option maxRecDepth 100000 in
theorem cw_76 : cwP 76 := Or.inl ⟨rfl, cw_in (i := 723) rfl rfl⟩
set_option maxRecDepth 100000 in
theorem cw_77 : cwP 77 := Or.inl ⟨rfl, cw_in (i := 728) rfl rfl⟩
set_option maxRecDepth 100000 in
theorem cw_78 : cwP 78 := Or.inl ⟨rfl, cw_in (i := 748) rfl rfl⟩
set_option maxRecDepth 100000 in
theorem cw_79 : cwP 79 := Or.inl ⟨rfl, cw_in (i := 752) rfl rfl⟩
set_option maxRecDepth 100000 in
theorem cw_80 : cwP 80 := Or.inl ⟨rfl, cw_in (i := 756) rfl rfl⟩
set_option maxRecDepth 100000 in
theorem cw_81 : cwP 81 := Or.inl ⟨rfl, cw_in (i := 760) rfl rfl⟩
set_option maxRecDepth 100000 in
theorem cw_82 : cwP 82 := Or.inr ⟨by decide, cw_in (i := 764) rfl rfl⟩
set_option maxRecDepth 100000 in
theorem cw_83 : cwP 83 := Or.inl ⟨rfl, cw_in (i := 768) rfl rfl⟩
set_option maxRecDepth 100000 in
theorem cw_84 : cwP 84 := Or.inr ⟨by decide, cw_in (i := 772) rfl rfl⟩
set_option maxRecDepth 100000 in
theorem cw_85 : cwP 85 := Or.inl ⟨rfl, cw_in (i := 776) rfl rfl⟩
set_option maxRecDepth 100000 in
theorem cw_86 : cwP 86 := Or.inl ⟨rfl, cw_in (i := 781) rfl rfl⟩
set_option maxRecDepth 100000 in
theorem cw_87 : cwP 87 := Or.inr ⟨by decide, cw_in (i := 784) rfl rfl⟩
set_option maxRecDepth 100000 in
theorem cw_88 : cwP 88 := Or.inl ⟨rfl, cw_in (i := 788) rfl rfl⟩
set_option maxRecDepth 100000 in
theorem cw_89 : cwP 89 := Or.inl ⟨rfl, cw_in (i := 791) rfl rfl⟩
set_option maxRecDepth 100000 in
theorem cw_90 : cwP 90 := Or.inr ⟨by decide, cw_in (i := 795) rfl rfl⟩
set_option maxRecDepth 100000 in
theorem cw_91 : cwP 91 := Or.inl ⟨rfl, cw_in (i := 799) rfl rfl⟩
set_option maxRecDepth 100000 in
theorem cw_92 : cwP 92 := Or.inr ⟨by decide, cw_in (i := 802) rfl rfl⟩
set_option maxRecDepth 100000 in
theorem cw_93 : cwP 93 := Or.inl ⟨rfl, cw_in (i := 806) rfl rfl⟩
set_option maxRecDepth 100000 in
theorem cw_94 : cwP 94 := Or.inl ⟨rfl, cw_in (i := 812) rfl rfl⟩
set_option maxRecDepth 100000 in
theorem cw_95 : cwP 95 := Or.inl ⟨rfl, cw_in (i := 816) rfl rfl⟩
set_option maxRecDepth 100000 in
theorem cw_96 : cwP 96 := Or.inl ⟨rfl, cw_in (i := 820) rfl rfl⟩
set_option maxRecDepth 100000 in
theorem cw_97 : cwP 97 := Or.inl ⟨rfl, cw_in (i := 824) rfl rfl⟩
set_option maxRecDepth 100000 in
theorem cw_98 : cwP 98 := Or.inl ⟨rfl, cw_in (i := 829) rfl rfl⟩
set_option maxRecDepth 100000 in
theorem cw_99 : cwP 99 := Or.inl ⟨rfl, cw_in (i := 833) rfl rfl⟩
set_option maxRecDepth 100000 in
theorem cw_100 : cwP 100 := Or.inl ⟨rfl, cw_in (i := 837) rfl rfl⟩
set_option maxRecDepth 100000 in
theorem cw_101 : cwP 101 := Or.inl ⟨rfl, cw_in (i := 842) rfl rfl⟩
set_option maxRecDepth 100000 in
theorem cw_102 : cwP 102 := Or.inl ⟨rfl, cw_in (i := 846) rfl rfl⟩
set_option maxRecDepth 100000 in
theorem cw_103 : cwP 103 := Or.inr ⟨by decide, cw_in (i := 849) rfl rfl⟩
set_option maxRecDepth 100000 in
theorem cw_104 : cwP 104 := Or.inl ⟨rfl, cw_in (i := 853) rfl rfl⟩
set_option maxRecDepth 100000 in
theorem cw_105 : cwP 105 := Or.inl ⟨rfl, cw_in (i := 859) rfl rfl⟩
set_option maxRecDepth 100000 in
theorem cw_106 : cwP 106 := Or.inl ⟨rfl, cw_in (i := 863) rfl rfl⟩
set_option maxRecDepth 100000 in
theorem cw_107 : cwP 107 := Or.inl ⟨rfl, cw_in (i := 867) rfl rfl⟩
set_option maxRecDepth 100000 in
theorem cw_108 : cwP 108 := Or.inl ⟨rfl, cw_in (i := 872) rfl rfl⟩
set_option maxRecDepth 100000 in
theorem cw_109 : cwP 109 := Or.inl ⟨rfl, cw_in (i := 938) rfl rfl⟩
set_option maxRecDepth 100000 in
theorem cw_110 : cwP 110 := Or.inl ⟨rfl, cw_in (i := 942) rfl rfl⟩
set_option maxRecDepth 100000 in
theorem cw_111 : cwP 111 := Or.inl ⟨rfl, cw_in (i := 946) rfl rfl⟩
set_option maxRecDepth 100000 in
theorem cw_112 : cwP 112 := Or.inl ⟨rfl, cw_in (i := 950) rfl rfl⟩
set_option maxRecDepth 100000 in
theorem cw_113 : cwP 113 := Or.inl ⟨rfl, cw_in (i := 954) rfl rfl⟩
set_option maxRecDepth 100000 in
theorem cw_114 : cwP 114 := Or.inl ⟨rfl, cw_in (i := 958) rfl rfl⟩
set_option maxRecDepth 100000 in
theorem cw_115 : cwP 115 := Or.inl ⟨rfl, cw_in (i := 962) rfl rfl⟩
set_option maxRecDepth 100000 in
theorem cw_116 : cwP 116 := Or.inl ⟨rfl, cw_in (i := 966) rfl rfl⟩
set_option maxRecDepth 100000 in
theorem cw_117 : cwP 117 := Or.inl ⟨rfl, cw_in (i := 970) rfl rfl⟩
set_option maxRecDepth 100000 in
theorem cw_118 : cwP 118 := Or.inl ⟨rfl, cw_in (i := 974) rfl rfl⟩
set_option maxRecDepth 100000 in
theorem cw_119 : cwP 119 := Or.inl ⟨rfl, cw_in (i := 978) rfl rfl⟩
set_option maxRecDepth 100000 in
theorem cw_120 : cwP 120 := Or.inl ⟨rfl, cw_in (i := 982) rfl rfl⟩
set_option maxRecDepth 100000 in
theorem cw_121 : cwP 121 := Or.inl ⟨rfl, cw_in (i := 986) rfl rfl⟩
set_option maxRecDepth 100000 in
theorem cw_122 : cwP 122 := Or.inl ⟨rfl, cw_in (i := 990) rfl rfl⟩
set_option maxRecDepth 100000 in
theorem cw_123 : cwP 123 := Or.inl ⟨rfl, cw_in (i := 994) rfl rfl⟩
set_option maxRecDepth 100000 in
theorem cw_124 : cwP 124 := Or.inl ⟨rfl, cw_in (i := 998) rfl rfl⟩
set_option maxRecDepth 100000 in
theorem cw_125 : cwP 125 := Or.inl ⟨rfl, cw_in (i := 1002) rfl rfl⟩
set_option maxRecDepth 100000 in
theorem cw_126 : cwP 126 := Or.inl ⟨rfl, cw_in (i := 1006) rfl rfl⟩
set_option maxRecDepth 100000 in
theorem cw_127 : cwP 127 := Or.inl ⟨rfl, cw_in (i := 1010) rfl rfl⟩
set_option maxRecDepth 100000 in
theorem cw_128 : cwP 128 := Or.inl ⟨rfl, cw_in (i := 1014) rfl rfl⟩
set_option maxRecDepth 100000 in
theorem cw_129 : cwP 129 := Or.inl ⟨rfl, cw_in (i := 1018) rfl rfl⟩
set_option maxRecDepth 100000 in
theorem cw_130 : cwP 130 := Or.inl ⟨rfl, cw_in (i := 1022) rfl rfl⟩
set_option maxRecDepth 100000 in
theorem cw_131 : cwP 131 := Or.inl ⟨rfl, cw_in (i := 1026) rfl rfl⟩
set_option maxRecDepth 100000 in
theorem cw_132 : cwP 132 := Or.inl ⟨rfl, cw_in (i := 1030) rfl rfl⟩
set_option maxRecDepth 100000 in
theorem cw_133 : cwP 133 := Or.inl ⟨rfl, cw_in (i := 1034) rfl rfl⟩
set_option maxRecDepth 100000 in
theorem cw_134 : cwP 134 := Or.inl ⟨rfl, cw_in (i := 1038) rfl rfl⟩
set_option maxRecDepth 100000 in
theorem cw_135 : cwP 135 := Or.inl ⟨rfl, cw_in (i := 1042) rfl rfl⟩
set_option maxRecDepth 100000 in
theorem cw_136 : cwP 136 := Or.inl ⟨rfl, cw_in (i := 1046) rfl rfl⟩
set_option maxRecDepth 100000 in
theorem cw_137 : cwP 137 := Or.inl ⟨rfl, cw_in (i := 1050) rfl rfl⟩
set_option maxRecDepth 100000 in
theorem cw_138 : cwP 138 := Or.inl ⟨rfl, cw_in (i := 1054) rfl rfl⟩
set_option maxRecDepth 100000 in
theorem cw_139 : cwP 139 := Or.inl ⟨rfl, cw_in (i := 1058) rfl rfl⟩
set_option maxRecDepth 100000 in
theorem cw_140 : cwP 140 := Or.inl ⟨rfl, cw_in (i := 1062) rfl rfl⟩
set_option maxRecDepth 100000 in
theorem cw_141 : cwP 141 := Or.inl ⟨rfl, cw_in (i := 1066) rfl rfl⟩
set_option maxRecDepth 100000 in
theorem cw_142 : cwP 142 := Or.inl ⟨rfl, cw_in (i := 1070) rfl rfl⟩
set_option maxRecDepth 100000 in
theorem cw_143 : cwP 143 := Or.inl ⟨rfl, cw_in (i := 1074) rfl rfl⟩
set_option maxRecDepth 100000 in
theorem cw_144 : cwP 144 := Or.inl ⟨rfl, cw_in (i := 1077) rfl rfl⟩
set_option maxRecDepth 100000 in
theorem cw_145 : cwP 145 := Or.inl ⟨rfl, cw_in (i := 1081) rfl rfl⟩
set_option maxRecDepth 100000 in
theorem cw_146 : cwP 146 := Or.inl ⟨rfl, cw_in (i := 1085) rfl rfl⟩
set_option maxRecDepth 100000 in
theorem cw_147 : cwP 147 := Or.inl ⟨rfl, cw_in (i := 1089) rfl rfl⟩
set_option maxRecDepth 100000 in
theorem cw_148 : cwP 148 := Or.inl ⟨rfl, cw_in (i := 1093) rfl rfl⟩
set_option maxRecDepth 100000 in
theorem cw_149 : cwP 149 := Or.inl ⟨rfl, cw_in (i := 1098) rfl rfl⟩
set_option maxRecDepth 100000 in
theorem cw_150 : cwP 150 := Or.inl ⟨rfl, cw_in (i := 1102) rfl rfl⟩
set_option maxRecDepth 100000 in
theorem cw_151 : cwP 151 := Or.inl ⟨rfl, cw_in (i := 1106) rfl rfl⟩
set_option maxRecDepth 100000 in
theorem cw_152 : cwP 152 := Or.inl ⟨rfl, cw_in (i := 1110) rfl rfl⟩
set_option maxRecDepth 100000 in
theorem cw_153 : cwP 153 := Or.inl ⟨rfl, cw_in (i := 1116) rfl rfl⟩
set_option maxRecDepth 100000 in
theorem cw_154 : cwP 154 := Or.inl ⟨rfl, cw_in (i := 1120) rfl rfl⟩
set_option maxRecDepth 100000 in
theorem cw_155 : cwP 155 := Or.inl ⟨rfl, cw_in (i := 1124) rfl rfl⟩
set_option maxRecDepth 100000 in
theorem cw_156 : cwP 156 := Or.inl ⟨rfl, cw_in (i := 1128) rfl rfl⟩
set_option maxRecDepth 100000 in
theorem cw_157 : cwP 157 := Or.inl ⟨rfl, cw_in (i := 1132) rfl rfl⟩
set_option maxRecDepth 100000 in
theorem cw_158 : cwP 158 := Or.inl ⟨rfl, cw_in (i := 1136) rfl rfl⟩
set_option maxRecDepth 100000 in
theorem cw_159 : cwP 159 := Or.inl ⟨rfl, cw_in (i := 1140) rfl rfl⟩
set_option maxRecDepth 100000 in
theorem cw_160 : cwP 160 := Or.inl ⟨rfl, cw_in (i := 1144) rfl rfl⟩
theorem cw_r0 : ∀ j, 0 ≤ j → j < 20 → cwP j := by
  intro j h1 h2
  have h3 : j = 0 ∨ j = 1 ∨ j = 2 ∨ j = 3 ∨ j = 4 ∨ j = 5 ∨ j = 6 ∨ j = 7 ∨ j = 8 ∨ j = 9 ∨ j = 10 ∨ j = 11 ∨ j = 12 ∨ j = 13 ∨ j = 14 ∨ j = 15 ∨ j = 16 ∨ j = 17 ∨ j = 18 ∨ j = 19 := by omega
  rcases h3 with rfl | rfl | rfl | rfl | rfl | rfl | rfl | rfl | rfl | rfl | rfl | rfl | rfl | rfl | rfl | rfl | rfl | rfl | rfl | rfl
  · exact cw_0
  · exact cw_1
  · exact cw_2
  · exact cw_3
  · exact cw_4
  · exact cw_5
  · exact cw_6
  · exact cw_7
  · exact cw_8
  · exact cw_9
  · exact cw_10
  · exact cw_11
  · exact cw_12
  · exact cw_13
  · exact cw_14
  · exact cw_15
  · exact cw_16
  · exact cw_17
  · exact cw_18
  · exact cw_19
theorem cw_r1 : ∀ j, 20 ≤ j → j < 40 → cwP j := by
  intro j h1 h2
  have h3 : j = 20 ∨ j = 21 ∨ j = 22 ∨ j = 23 ∨ j = 24 ∨ j = 25 ∨ j = 26 ∨ j = 27 ∨ j = 28 ∨ j = 29 ∨ j = 30 ∨ j = 31 ∨ j = 32 ∨ j = 33 ∨ j = 34 ∨ j = 35 ∨ j = 36 ∨ j = 37 ∨ j = 38 ∨ j = 39 := by omega
  rcases h3 with rfl | rfl | rfl | rfl | rfl | rfl | rfl | rfl | rfl | rfl | rfl | rfl | rfl | rfl | rfl | rfl | rfl | rfl | rfl | rfl
  · exact cw_20
  · exact cw_21
  · exact cw_22
  · exact cw_23
  · exact cw_24
  · exact cw_25
  · exact cw_26
  · exact cw_27
  · exact cw_28
  · exact cw_29
  · exact cw_30
  · exact cw_31
  · exact cw_32
  · exact cw_33
  · exact cw_34
  · exact cw_35
  · exact cw_36
  · exact cw_37
  · exact cw_38
  · exact cw_39
theorem cw_r2 : ∀ j, 40 ≤ j → j < 60 → cwP j := by
  intro j h1 h2
  have h3 : j = 40 ∨ j = 41 ∨ j = 42 ∨ j = 43 ∨ j = 44 ∨ j = 45 ∨ j = 46 ∨ j = 47 ∨ j = 48 ∨ j = 49 ∨ j = 50 ∨ j = 51 ∨ j = 52 ∨ j = 53 ∨ j = 54 ∨ j = 55 ∨ j = 56 ∨ j = 57 ∨ j = 58 ∨ j = 59 := by omega
  rcases h3 with rfl | rfl | rfl | rfl | rfl | rfl | rfl | rfl | rfl | rfl | rfl | rfl | rfl | rfl | rfl | rfl | rfl | rfl | rfl | rfl
  · exact cw_40
  · exact cw_41
  · exact cw_42
  · exact cw_43
  · exact cw_44
  · exact cw_45
  · exact cw_46
  · exact cw_47
  · exact cw_48
  · exact cw_49
  · exact cw_50
  · exact cw_51
  · exact cw_52
  · exact cw_53
  · exact cw_54
  · exact cw_55
  · exact cw_56
  · exact cw_57
  · exact cw_58
  · exact cw_59
theorem cw_r3 : ∀ j, 60 ≤ j → j < 80 → cwP j := by
  intro j h1 h2
  have h3 : j = 60 ∨ j = 61 ∨ j = 62 ∨ j = 63 ∨ j = 64 ∨ j = 65 ∨ j = 66 ∨ j = 67 ∨ j = 68 ∨ j = 69 ∨ j = 70 ∨ j = 71 ∨ j = 72 ∨ j = 73 ∨ j = 74 ∨ j = 75 ∨ j = 76 ∨ j = 77 ∨ j = 78 ∨ j = 79 := by omega
  rcases h3 with rfl | rfl | rfl | rfl | rfl | rfl | rfl | rfl | rfl | rfl | rfl | rfl | rfl | rfl | rfl | rfl | rfl | rfl | rfl | rfl
  · exact cw_60
  · exact cw_61
  · exact cw_62
  · exact cw_63
  · exact cw_64
  · exact cw_65
  · exact cw_66
  · exact cw_67
  · exact cw_68
  · exact cw_69
  · exact cw_70
  · exact cw_71
  · exact cw_72
  · exact cw_73
  · exact cw_74
  · exact cw_75
  · exact cw_76
  · exact cw_77
  · exact cw_78
  · exact cw_79
theorem cw_r4 : ∀ j, 80 ≤ j → j < 100 → cwP j := by
  intro j h1 h2
  have h3 : j = 80 ∨ j = 81 ∨ j = 82 ∨ j = 83 ∨ j = 84 ∨ j = 85 ∨ j = 86 ∨ j = 87 ∨ j = 88 ∨ j = 89 ∨ j = 90 ∨ j = 91 ∨ j = 92 ∨ j = 93 ∨ j = 94 ∨ j = 95 ∨ j = 96 ∨ j = 97 ∨ j = 98 ∨ j = 99 := by omega
  rcases h3 with rfl | rfl | rfl | rfl | rfl | rfl | rfl | rfl | rfl | rfl | rfl | rfl | rfl | rfl | rfl | rfl | rfl | rfl | rfl | rfl
  · exact cw_80
  · exact cw_81
  · exact cw_82
  · exact cw_83
  · exact cw_84
  · exact cw_85
  · exact cw_86
  · exact cw_87
  · exact cw_88
  · exact cw_89
  · exact cw_90
  · exact cw_91
  · exact cw_92
  · exact cw_93
  · exact cw_94
  · exact cw_95
  · exact cw_96
  · exact cw_97
  · exact cw_98
  · exact cw_99
theorem cw_r5 : ∀ j, 100 ≤ j → j < 120 → cwP j := by
  intro j h1 h2
  have h3 : j = 100 ∨ j = 101 ∨ j = 102 ∨ j = 103 ∨ j = 104 ∨ j = 105 ∨ j = 106 ∨ j = 107 ∨ j = 108 ∨ j = 109 ∨ j = 110 ∨ j = 111 ∨ j = 112 ∨ j = 113 ∨ j = 114 ∨ j = 115 ∨ j = 116 ∨ j = 117 ∨ j = 118 ∨ j = 119 := by omega
  rcases h3 with rfl | rfl | rfl | rfl | rfl | rfl | rfl | rfl | rfl | rfl | rfl | rfl | rfl | rfl | rfl | rfl | rfl | rfl | rfl | rfl
  · exact cw_100
  · exact cw_101
  · exact cw_102
  · exact cw_103
  · exact cw_104
  · exact cw_105
  · exact cw_106
  · exact cw_107
  · exact cw_108
  · exact cw_109
  · exact cw_110
  · exact cw_111
  · exact cw_112
  · exact cw_113
  · exact cw_114
  · exact cw_115
  · exact cw_116
  · exact cw_117
  · exact cw_118
  · exact cw_119
theorem cw_r6 : ∀ j, 120 ≤ j → j < 140 → cwP j := by
  intro j h1 h2
  have h3 : j = 120 ∨ j = 121 ∨ j = 122 ∨ j = 123 ∨ j = 124 ∨ j = 125 ∨ j = 126 ∨ j = 127 ∨ j = 128 ∨ j = 129 ∨ j = 130 ∨ j = 131 ∨ j = 132 ∨ j = 133 ∨ j = 134 ∨ j = 135 ∨ j = 136 ∨ j = 137 ∨ j = 138 ∨ j = 139 := by omega
  rcases h3 with rfl | rfl | rfl | rfl | rfl | rfl | rfl | rfl | rfl | rfl | rfl | rfl | rfl | rfl | rfl | rfl | rfl | rfl | rfl | rfl
  · exact cw_120
  · exact cw_121
  · exact cw_122
  · exact cw_123
  · exact cw_124
  · exact cw_125
  · exact cw_126
  · exact cw_127
  · exact cw_128
  · exact cw_129
  · exact cw_130
  · exact cw_131
  · exact cw_132
  · exact cw_133
  · exact cw_134
  · exact cw_135
  · exact cw_136
  · exact cw_137
  · exact cw_138
  · exact cw_139
theorem cw_r7 : ∀ j, 140 ≤ j → j < 160 → cwP j := by
  intro j h1 h2
  have h3 : j = 140 ∨ j = 141 ∨ j = 142 ∨ j = 143 ∨ j = 144 ∨ j = 145 ∨ j = 146 ∨ j = 147 ∨ j = 148 ∨ j = 149 ∨ j = 150 ∨ j = 151 ∨ j = 152 ∨ j = 153 ∨ j = 154 ∨ j = 155 ∨ j = 156 ∨ j = 157 ∨ j = 158 ∨ j = 159 := by omega
  rcases h3 with rfl | rfl | rfl | rfl | rfl | rfl | rfl | rfl | rfl | rfl | rfl | rfl | rfl | rfl | rfl | rfl | rfl | rfl | rfl | rfl
  · exact cw_140
  · exact cw_141
  · exact cw_142
  · exact cw_143
  · exact cw_144
  · exact cw_145
  · exact cw_146
  · exact cw_147
  · exact cw_148
  · exact cw_149
  · exact cw_150
  · exact cw_151
  · exact cw_152
  · exact cw_153
  · exact cw_154
  · exact cw_155
  · exact cw_156
  · exact cw_157
  · exact cw_158
  · exact cw_159
theorem cw_r8 : ∀ j, 160 ≤ j → j < 161 → cwP j := by
  intro j h1 h2
  have h3 : j = 160 := by omega
  rcases h3 with rfl
  · exact cw_160
theorem cw_all : ∀ j, j < 161 → cwP j := by
  intro j h
  by_cases h0 : j < 20
  · exact cw_r0 j (by omega) h0
  by_cases h1 : j < 40
  · exact cw_r1 j (by omega) h1
  by_cases h2 : j < 60
  · exact cw_r2 j (by omega) h2
  by_cases h3 : j < 80
  · exact cw_r3 j (by omega) h3
  by_cases h4 : j < 100
  · exact cw_r4 j (by omega) h4
  by_cases h5 : j < 120
  · exact cw_r5 j (by omega) h5
  by_cases h6 : j < 140
  · exact cw_r6 j (by omega) h6
  by_cases h7 : j < 160
  · exact cw_r7 j (by omega) h7
  by_cases h8 : j < 161
  · exact cw_r8 j (by omega) h8
  omega
