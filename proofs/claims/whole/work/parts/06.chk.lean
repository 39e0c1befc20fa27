/-! the tables of part 02 hold: their words are among the Statement's -/
theorem lookup_mem {α : Type} {l : List (Nat × α)} {k : Nat} {v : α} (h : l.lookup k = some v) : (k, v) ∈ l := by
  induction l with
  | nil => cases h
  | cons a l ih =>
    obtain ⟨k0, v0⟩ := a
    by_cases e : k = k0
    · subst e
      simp [List.lookup] at h
      rw [h]
      exact List.mem_cons_self
    · have e2 : (k == k0) = false := by simpa using e
      simp only [List.lookup, e2] at h
      exact List.mem_cons_of_mem _ (ih h)
def mCo (j : Nat) : Cond := .code (mY j) (mC j) (mL j) (mR j)
set_option maxRecDepth 100000 in
theorem cw_0 : mCo 0 ∈ wsA := wsA_in (k := 158) rfl rfl
set_option maxRecDepth 100000 in
theorem cw_1 : mCo 1 ∈ wsA := wsA_in (k := 509) rfl rfl
set_option maxRecDepth 100000 in
theorem cw_2 : mCo 2 ∈ wsA := wsA_in (k := 525) rfl rfl
set_option maxRecDepth 100000 in
theorem cw_3 : mCo 3 ∈ wsA := wsA_in (k := 558) rfl rfl
set_option maxRecDepth 100000 in
theorem cw_4 : mCo 4 ∈ wsA := wsA_in (k := 513) rfl rfl
set_option maxRecDepth 100000 in
theorem cw_5 : mCo 5 ∈ wsA := wsA_in (k := 530) rfl rfl
set_option maxRecDepth 100000 in
theorem cw_6 : mCo 6 ∈ wsA := wsA_in (k := 620) rfl rfl
set_option maxRecDepth 100000 in
theorem cw_7 : mCo 7 ∈ wsA := wsA_in (k := 542) rfl rfl
set_option maxRecDepth 100000 in
theorem cw_8 : mCo 8 ∈ wsA := wsA_in (k := 546) rfl rfl
set_option maxRecDepth 100000 in
theorem cw_9 : mCo 9 ∈ wsA := wsA_in (k := 566) rfl rfl
set_option maxRecDepth 100000 in
theorem cw_10 : mCo 10 ∈ wsA := wsA_in (k := 574) rfl rfl
set_option maxRecDepth 100000 in
theorem cw_11 : mCo 11 ∈ wsA := wsA_in (k := 579) rfl rfl
set_option maxRecDepth 100000 in
theorem cw_12 : mCo 12 ∈ wsA := wsA_in (k := 588) rfl rfl
set_option maxRecDepth 100000 in
theorem cw_13 : mCo 13 ∈ wsA := wsA_in (k := 596) rfl rfl
set_option maxRecDepth 100000 in
theorem cw_14 : mCo 14 ∈ wsA := wsA_in (k := 592) rfl rfl
set_option maxRecDepth 100000 in
theorem cw_15 : mCo 15 ∈ wsA := wsA_in (k := 600) rfl rfl
set_option maxRecDepth 100000 in
theorem cw_16 : mCo 16 ∈ wsA := wsA_in (k := 604) rfl rfl
set_option maxRecDepth 100000 in
theorem cw_17 : mCo 17 ∈ wsA := wsA_in (k := 608) rfl rfl
set_option maxRecDepth 100000 in
theorem cw_18 : mCo 18 ∈ wsA := wsA_in (k := 612) rfl rfl
set_option maxRecDepth 100000 in
theorem cw_19 : mCo 19 ∈ wsA := wsA_in (k := 184) rfl rfl
set_option maxRecDepth 100000 in
theorem cw_20 : mCo 20 ∈ wsA := wsA_in (k := 633) rfl rfl
set_option maxRecDepth 100000 in
theorem cw_21 : mCo 21 ∈ wsA := wsA_in (k := 646) rfl rfl
set_option maxRecDepth 100000 in
theorem cw_22 : mCo 22 ∈ wsA := wsA_in (k := 637) rfl rfl
set_option maxRecDepth 100000 in
theorem cw_23 : mCo 23 ∈ wsA := wsA_in (k := 712) rfl rfl
set_option maxRecDepth 100000 in
theorem cw_24 : mCo 24 ∈ wsA := wsA_in (k := 654) rfl rfl
set_option maxRecDepth 100000 in
theorem cw_25 : mCo 25 ∈ wsA := wsA_in (k := 704) rfl rfl
set_option maxRecDepth 100000 in
theorem cw_26 : mCo 26 ∈ wsA := wsA_in (k := 658) rfl rfl
set_option maxRecDepth 100000 in
theorem cw_27 : mCo 27 ∈ wsA := wsA_in (k := 662) rfl rfl
set_option maxRecDepth 100000 in
theorem cw_28 : mCo 28 ∈ wsA := wsA_in (k := 666) rfl rfl
set_option maxRecDepth 100000 in
theorem cw_29 : mCo 29 ∈ wsA := wsA_in (k := 675) rfl rfl
set_option maxRecDepth 100000 in
theorem cw_30 : mCo 30 ∈ wsA := wsA_in (k := 670) rfl rfl
set_option maxRecDepth 100000 in
theorem cw_31 : mCo 31 ∈ wsA := wsA_in (k := 679) rfl rfl
set_option maxRecDepth 100000 in
theorem cw_32 : mCo 32 ∈ wsA := wsA_in (k := 683) rfl rfl
set_option maxRecDepth 100000 in
theorem cw_33 : mCo 33 ∈ wsA := wsA_in (k := 688) rfl rfl
set_option maxRecDepth 100000 in
theorem cw_34 : mCo 34 ∈ wsA := wsA_in (k := 131) rfl rfl
set_option maxRecDepth 100000 in
theorem cw_35 : mCo 35 ∈ wsA := wsA_in (k := 437) rfl rfl
set_option maxRecDepth 100000 in
theorem cw_36 : mCo 36 ∈ wsA := wsA_in (k := 489) rfl rfl
set_option maxRecDepth 100000 in
theorem cw_37 : mCo 37 ∈ wsA := wsA_in (k := 425) rfl rfl
set_option maxRecDepth 100000 in
theorem cw_38 : mCo 38 ∈ wsA := wsA_in (k := 441) rfl rfl
set_option maxRecDepth 100000 in
theorem cw_39 : mCo 39 ∈ wsA := wsA_in (k := 449) rfl rfl
set_option maxRecDepth 100000 in
theorem cw_40 : mCo 40 ∈ wsA := wsA_in (k := 475) rfl rfl
set_option maxRecDepth 100000 in
theorem cw_41 : mCo 41 ∈ wsA := wsA_in (k := 453) rfl rfl
set_option maxRecDepth 100000 in
theorem cw_42 : mCo 42 ∈ wsA := wsA_in (k := 463) rfl rfl
set_option maxRecDepth 100000 in
theorem cw_43 : mCo 43 ∈ wsA := wsA_in (k := 467) rfl rfl
set_option maxRecDepth 100000 in
theorem cw_44 : mCo 44 ∈ wsA := wsA_in (k := 479) rfl rfl
set_option maxRecDepth 100000 in
theorem cw_45 : mCo 45 ∈ wsA := wsA_in (k := 484) rfl rfl
set_option maxRecDepth 100000 in
theorem cw_46 : mCo 46 ∈ wsA := wsA_in (k := 224) rfl rfl
set_option maxRecDepth 100000 in
theorem cw_47 : mCo 47 ∈ wsA := wsA_in (k := 738) rfl rfl
set_option maxRecDepth 100000 in
theorem cw_48 : mCo 48 ∈ wsA := wsA_in (k := 746) rfl rfl
set_option maxRecDepth 100000 in
theorem cw_49 : mCo 49 ∈ wsA := wsA_in (k := 755) rfl rfl
set_option maxRecDepth 100000 in
theorem cw_50 : mCo 50 ∈ wsA := wsA_in (k := 742) rfl rfl
set_option maxRecDepth 100000 in
theorem cw_51 : mCo 51 ∈ wsA := wsA_in (k := 750) rfl rfl
set_option maxRecDepth 100000 in
theorem cw_52 : mCo 52 ∈ wsA := wsA_in (k := 106) rfl rfl
set_option maxRecDepth 100000 in
theorem cw_53 : mCo 53 ∈ wsA := wsA_in (k := 369) rfl rfl
set_option maxRecDepth 100000 in
theorem cw_54 : mCo 54 ∈ wsA := wsA_in (k := 385) rfl rfl
set_option maxRecDepth 100000 in
theorem cw_55 : mCo 55 ∈ wsA := wsA_in (k := 389) rfl rfl
set_option maxRecDepth 100000 in
theorem cw_56 : mCo 56 ∈ wsA := wsA_in (k := 373) rfl rfl
set_option maxRecDepth 100000 in
theorem cw_57 : mCo 57 ∈ wsA := wsA_in (k := 393) rfl rfl
set_option maxRecDepth 100000 in
theorem cw_58 : mCo 58 ∈ wsA := wsA_in (k := 401) rfl rfl
set_option maxRecDepth 100000 in
theorem cw_59 : mCo 59 ∈ wsA := wsA_in (k := 405) rfl rfl
set_option maxRecDepth 100000 in
theorem cw_60 : mCo 60 ∈ wsA := wsA_in (k := 409) rfl rfl
set_option maxRecDepth 100000 in
theorem cw_61 : mCo 61 ∈ wsA := wsA_in (k := 86) rfl rfl
set_option maxRecDepth 100000 in
theorem cw_62 : mCo 62 ∈ wsA := wsA_in (k := 281) rfl rfl
set_option maxRecDepth 100000 in
theorem cw_63 : mCo 63 ∈ wsA := wsA_in (k := 300) rfl rfl
set_option maxRecDepth 100000 in
theorem cw_64 : mCo 64 ∈ wsA := wsA_in (k := 296) rfl rfl
set_option maxRecDepth 100000 in
theorem cw_65 : mCo 65 ∈ wsA := wsA_in (k := 324) rfl rfl
set_option maxRecDepth 100000 in
theorem cw_66 : mCo 66 ∈ wsA := wsA_in (k := 288) rfl rfl
set_option maxRecDepth 100000 in
theorem cw_67 : mCo 67 ∈ wsA := wsA_in (k := 304) rfl rfl
set_option maxRecDepth 100000 in
theorem cw_68 : mCo 68 ∈ wsA := wsA_in (k := 315) rfl rfl
set_option maxRecDepth 100000 in
theorem cw_69 : mCo 69 ∈ wsA := wsA_in (k := 332) rfl rfl
set_option maxRecDepth 100000 in
theorem cw_70 : mCo 70 ∈ wsA := wsA_in (k := 284) rfl rfl
set_option maxRecDepth 100000 in
theorem cw_71 : mCo 71 ∈ wsA := wsA_in (k := 328) rfl rfl
set_option maxRecDepth 100000 in
theorem cw_72 : mCo 72 ∈ wsA := wsA_in (k := 307) rfl rfl
set_option maxRecDepth 100000 in
theorem cw_73 : mCo 73 ∈ wsA := wsA_in (k := 78) rfl rfl
set_option maxRecDepth 100000 in
theorem cw_74 : mCo 74 ∈ wsA := wsA_in (k := 273) rfl rfl
set_option maxRecDepth 100000 in
theorem cw_75 : mCo 75 ∈ wsA := wsA_in (k := 277) rfl rfl
set_option maxRecDepth 100000 in
theorem cw_76 : mCo 76 ∈ wsA := wsA_in (k := 292) rfl rfl
set_option maxRecDepth 100000 in
theorem cw_77 : mCo 77 ∈ wsA := wsA_in (k := 311) rfl rfl
set_option maxRecDepth 100000 in
theorem cw_78 : mCo 78 ∈ wsA := wsA_in (k := 320) rfl rfl
set_option maxRecDepth 100000 in
theorem cw_79 : mCo 79 ∈ wsA := wsA_in (k := 339) rfl rfl
set_option maxRecDepth 100000 in
theorem cw_80 : mCo 80 ∈ wsA := wsA_in (k := 343) rfl rfl
set_option maxRecDepth 100000 in
theorem cw_81 : mCo 81 ∈ wsA := wsA_in (k := 377) rfl rfl
set_option maxRecDepth 100000 in
theorem cw_82 : mCo 82 ∈ wsA := wsA_in (k := 397) rfl rfl
set_option maxRecDepth 100000 in
theorem cw_83 : mCo 83 ∈ wsA := wsA_in (k := 419) rfl rfl
set_option maxRecDepth 100000 in
theorem cw_84 : mCo 84 ∈ wsA := wsA_in (k := 429) rfl rfl
set_option maxRecDepth 100000 in
theorem cw_85 : mCo 85 ∈ wsA := wsA_in (k := 445) rfl rfl
set_option maxRecDepth 100000 in
theorem cw_86 : mCo 86 ∈ wsA := wsA_in (k := 471) rfl rfl
set_option maxRecDepth 100000 in
theorem cw_87 : mCo 87 ∈ wsA := wsA_in (k := 497) rfl rfl
set_option maxRecDepth 100000 in
theorem cw_88 : mCo 88 ∈ wsA := wsA_in (k := 501) rfl rfl
set_option maxRecDepth 100000 in
theorem cw_89 : mCo 89 ∈ wsA := wsA_in (k := 505) rfl rfl
set_option maxRecDepth 100000 in
theorem cw_90 : mCo 90 ∈ wsA := wsA_in (k := 517) rfl rfl
set_option maxRecDepth 100000 in
theorem cw_91 : mCo 91 ∈ wsA := wsA_in (k := 534) rfl rfl
set_option maxRecDepth 100000 in
theorem cw_92 : mCo 92 ∈ wsA := wsA_in (k := 550) rfl rfl
set_option maxRecDepth 100000 in
theorem cw_93 : mCo 93 ∈ wsA := wsA_in (k := 562) rfl rfl
set_option maxRecDepth 100000 in
theorem cw_94 : mCo 94 ∈ wsA := wsA_in (k := 570) rfl rfl
set_option maxRecDepth 100000 in
theorem cw_95 : mCo 95 ∈ wsA := wsA_in (k := 584) rfl rfl
set_option maxRecDepth 100000 in
theorem cw_96 : mCo 96 ∈ wsA := wsA_in (k := 616) rfl rfl
set_option maxRecDepth 100000 in
theorem cw_97 : mCo 97 ∈ wsA := wsA_in (k := 624) rfl rfl
set_option maxRecDepth 100000 in
theorem cw_98 : mCo 98 ∈ wsA := wsA_in (k := 642) rfl rfl
set_option maxRecDepth 100000 in
theorem cw_99 : mCo 99 ∈ wsA := wsA_in (k := 650) rfl rfl
set_option maxRecDepth 100000 in
theorem cw_100 : mCo 100 ∈ wsA := wsA_in (k := 695) rfl rfl
set_option maxRecDepth 100000 in
theorem cw_101 : mCo 101 ∈ wsA := wsA_in (k := 708) rfl rfl
set_option maxRecDepth 100000 in
theorem cw_102 : mCo 102 ∈ wsA := wsA_in (k := 716) rfl rfl
set_option maxRecDepth 100000 in
theorem cw_103 : mCo 103 ∈ wsA := wsA_in (k := 759) rfl rfl
set_option maxRecDepth 100000 in
theorem cw_104 : mCo 104 ∈ wsA := wsA_in (k := 768) rfl rfl
set_option maxRecDepth 100000 in
theorem cw_105 : mCo 105 ∈ wsA := wsA_in (k := 772) rfl rfl
set_option maxRecDepth 100000 in
theorem cw_106 : mCo 106 ∈ wsA := wsA_in (k := 788) rfl rfl
set_option maxRecDepth 100000 in
theorem cw_107 : mCo 107 ∈ wsA := wsA_in (k := 357) rfl rfl
set_option maxRecDepth 100000 in
theorem cw_108 : mCo 108 ∈ wsA := wsA_in (k := 353) rfl rfl
set_option maxRecDepth 100000 in
theorem cw_109 : mCo 109 ∈ wsA := wsA_in (k := 350) rfl rfl
set_option maxRecDepth 100000 in
theorem cw_110 : mCo 110 ∈ wsA := wsA_in (k := 725) rfl rfl
set_option maxRecDepth 100000 in
theorem cw_111 : mCo 111 ∈ wsA := wsA_in (k := 365) rfl rfl
set_option maxRecDepth 100000 in
theorem cw_112 : mCo 112 ∈ wsA := wsA_in (k := 361) rfl rfl
set_option maxRecDepth 100000 in
theorem cw_113 : mCo 113 ∈ wsA := wsA_in (k := 347) rfl rfl
set_option maxRecDepth 100000 in
theorem cw_114 : mCo 114 ∈ wsA := wsA_in (k := 381) rfl rfl
set_option maxRecDepth 100000 in
theorem cw_115 : mCo 115 ∈ wsA := wsA_in (k := 433) rfl rfl
set_option maxRecDepth 100000 in
theorem cw_116 : mCo 116 ∈ wsA := wsA_in (k := 521) rfl rfl
set_option maxRecDepth 100000 in
theorem cw_117 : mCo 117 ∈ wsA := wsA_in (k := 538) rfl rfl
set_option maxRecDepth 100000 in
theorem cw_118 : mCo 118 ∈ wsA := wsA_in (k := 554) rfl rfl
set_option maxRecDepth 100000 in
theorem cw_119 : mCo 119 ∈ wsA := wsA_in (k := 628) rfl rfl
set_option maxRecDepth 100000 in
theorem cw_120 : mCo 120 ∈ wsA := wsA_in (k := 699) rfl rfl
set_option maxRecDepth 100000 in
theorem cw_121 : mCo 121 ∈ wsA := wsA_in (k := 720) rfl rfl
set_option maxRecDepth 100000 in
theorem cw_122 : mCo 122 ∈ wsA := wsA_in (k := 730) rfl rfl
set_option maxRecDepth 100000 in
theorem cw_123 : mCo 123 ∈ wsA := wsA_in (k := 780) rfl rfl
set_option maxRecDepth 100000 in
theorem cw_124 : mCo 124 ∈ wsA := wsA_in (k := 493) rfl rfl
set_option maxRecDepth 100000 in
theorem cw_125 : mCo 125 ∈ wsA := wsA_in (k := 734) rfl rfl
set_option maxRecDepth 100000 in
theorem cw_126 : mCo 126 ∈ wsA := wsA_in (k := 763) rfl rfl
set_option maxRecDepth 100000 in
theorem cw_127 : mCo 127 ∈ wsA := wsA_in (k := 776) rfl rfl
set_option maxRecDepth 100000 in
theorem cw_128 : mCo 128 ∈ wsA := wsA_in (k := 784) rfl rfl
set_option maxRecDepth 100000 in
theorem cw_129 : mCo 129 ∈ wsA := wsA_in (k := 793) rfl rfl
set_option maxRecDepth 100000 in
theorem cw_130 : mCo 130 ∈ wsA := wsA_in (k := 923) rfl rfl
set_option maxRecDepth 100000 in
theorem cw_131 : mCo 131 ∈ wsA := wsA_in (k := 963) rfl rfl
set_option maxRecDepth 100000 in
theorem cw_132 : mCo 132 ∈ wsA := wsA_in (k := 931) rfl rfl
set_option maxRecDepth 100000 in
theorem cw_133 : mCo 133 ∈ wsA := wsA_in (k := 946) rfl rfl
set_option maxRecDepth 100000 in
theorem cw_134 : mCo 134 ∈ wsA := wsA_in (k := 927) rfl rfl
set_option maxRecDepth 100000 in
theorem cw_135 : mCo 135 ∈ wsA := wsA_in (k := 943) rfl rfl
set_option maxRecDepth 100000 in
theorem cw_136 : mCo 136 ∈ wsA := wsA_in (k := 939) rfl rfl
set_option maxRecDepth 100000 in
theorem cw_137 : mCo 137 ∈ wsA := wsA_in (k := 935) rfl rfl
set_option maxRecDepth 100000 in
theorem cw_138 : mCo 138 ∈ wsA := wsA_in (k := 950) rfl rfl
set_option maxRecDepth 100000 in
theorem cw_139 : mCo 139 ∈ wsA := wsA_in (k := 955) rfl rfl
set_option maxRecDepth 100000 in
theorem cw_140 : mCo 140 ∈ wsA := wsA_in (k := 971) rfl rfl
set_option maxRecDepth 100000 in
theorem cw_141 : mCo 141 ∈ wsA := wsA_in (k := 974) rfl rfl
set_option maxRecDepth 100000 in
theorem cw_142 : mCo 142 ∈ wsA := wsA_in (k := 959) rfl rfl
set_option maxRecDepth 100000 in
theorem cw_143 : mCo 143 ∈ wsA := wsA_in (k := 967) rfl rfl
set_option maxRecDepth 100000 in
theorem cw_144 : mCo 144 ∈ wsA := wsA_in (k := 978) rfl rfl
set_option maxRecDepth 100000 in
theorem cw_145 : mCo 145 ∈ wsA := wsA_in (k := 986) rfl rfl
set_option maxRecDepth 100000 in
theorem cw_146 : mCo 146 ∈ wsA := wsA_in (k := 982) rfl rfl
set_option maxRecDepth 100000 in
theorem cw_147 : mCo 147 ∈ wsA := wsA_in (k := 1143) rfl rfl
set_option maxRecDepth 100000 in
theorem cw_148 : mCo 148 ∈ wsA := wsA_in (k := 990) rfl rfl
set_option maxRecDepth 100000 in
theorem cw_149 : mCo 149 ∈ wsA := wsA_in (k := 999) rfl rfl
set_option maxRecDepth 100000 in
theorem cw_150 : mCo 150 ∈ wsA := wsA_in (k := 995) rfl rfl
set_option maxRecDepth 100000 in
theorem cw_151 : mCo 151 ∈ wsA := wsA_in (k := 1007) rfl rfl
set_option maxRecDepth 100000 in
theorem cw_152 : mCo 152 ∈ wsA := wsA_in (k := 1003) rfl rfl
set_option maxRecDepth 100000 in
theorem cw_153 : mCo 153 ∈ wsA := wsA_in (k := 1018) rfl rfl
set_option maxRecDepth 100000 in
theorem cw_154 : mCo 154 ∈ wsA := wsA_in (k := 1011) rfl rfl
set_option maxRecDepth 100000 in
theorem cw_155 : mCo 155 ∈ wsA := wsA_in (k := 1025) rfl rfl
set_option maxRecDepth 100000 in
theorem cw_156 : mCo 156 ∈ wsA := wsA_in (k := 1029) rfl rfl
set_option maxRecDepth 100000 in
theorem cw_157 : mCo 157 ∈ wsA := wsA_in (k := 1041) rfl rfl
set_option maxRecDepth 100000 in
theorem cw_158 : mCo 158 ∈ wsA := wsA_in (k := 1033) rfl rfl
set_option maxRecDepth 100000 in
theorem cw_159 : mCo 159 ∈ wsA := wsA_in (k := 1037) rfl rfl
set_option maxRecDepth 100000 in
theorem cw_160 : mCo 160 ∈ wsA := wsA_in (k := 1045) rfl rfl
set_option maxRecDepth 100000 in
theorem cw_161 : mCo 161 ∈ wsA := wsA_in (k := 1049) rfl rfl
set_option maxRecDepth 100000 in
theorem cw_162 : mCo 162 ∈ wsA := wsA_in (k := 1057) rfl rfl
set_option maxRecDepth 100000 in
theorem cw_163 : mCo 163 ∈ wsA := wsA_in (k := 1053) rfl rfl
set_option maxRecDepth 100000 in
theorem cw_164 : mCo 164 ∈ wsA := wsA_in (k := 1061) rfl rfl
set_option maxRecDepth 100000 in
theorem cw_165 : mCo 165 ∈ wsA := wsA_in (k := 1078) rfl rfl
set_option maxRecDepth 100000 in
theorem cw_166 : mCo 166 ∈ wsA := wsA_in (k := 1074) rfl rfl
set_option maxRecDepth 100000 in
theorem cw_167 : mCo 167 ∈ wsA := wsA_in (k := 1070) rfl rfl
set_option maxRecDepth 100000 in
theorem cw_168 : mCo 168 ∈ wsA := wsA_in (k := 1066) rfl rfl
set_option maxRecDepth 100000 in
theorem cw_169 : mCo 169 ∈ wsA := wsA_in (k := 1082) rfl rfl
set_option maxRecDepth 100000 in
theorem cw_170 : mCo 170 ∈ wsA := wsA_in (k := 1086) rfl rfl
set_option maxRecDepth 100000 in
theorem cw_171 : mCo 171 ∈ wsA := wsA_in (k := 1095) rfl rfl
set_option maxRecDepth 100000 in
theorem cw_172 : mCo 172 ∈ wsA := wsA_in (k := 1091) rfl rfl
set_option maxRecDepth 100000 in
theorem cw_173 : mCo 173 ∈ wsA := wsA_in (k := 1104) rfl rfl
set_option maxRecDepth 100000 in
theorem cw_174 : mCo 174 ∈ wsA := wsA_in (k := 1116) rfl rfl
set_option maxRecDepth 100000 in
theorem cw_175 : mCo 175 ∈ wsA := wsA_in (k := 1120) rfl rfl
set_option maxRecDepth 100000 in
theorem cw_176 : mCo 176 ∈ wsA := wsA_in (k := 1100) rfl rfl
set_option maxRecDepth 100000 in
theorem cw_177 : mCo 177 ∈ wsA := wsA_in (k := 1112) rfl rfl
set_option maxRecDepth 100000 in
theorem cw_178 : mCo 178 ∈ wsA := wsA_in (k := 1125) rfl rfl
set_option maxRecDepth 100000 in
theorem cw_179 : mCo 179 ∈ wsA := wsA_in (k := 1135) rfl rfl
set_option maxRecDepth 100000 in
theorem cw_180 : mCo 180 ∈ wsA := wsA_in (k := 1129) rfl rfl
set_option maxRecDepth 100000 in
theorem cw_181 : mCo 181 ∈ wsA := wsA_in (k := 1139) rfl rfl
set_option maxRecDepth 100000 in
theorem cw_182 : mCo 182 ∈ wsA := wsA_in (k := 1148) rfl rfl
set_option maxRecDepth 100000 in
theorem cw_183 : mCo 183 ∈ wsA := wsA_in (k := 1152) rfl rfl
set_option maxRecDepth 100000 in
theorem cw_184 : mCo 184 ∈ wsA := wsA_in (k := 1156) rfl rfl
set_option maxRecDepth 100000 in
theorem cw_185 : mCo 185 ∈ wsA := wsA_in (k := 1107) rfl rfl
set_option maxRecDepth 100000 in
theorem cw_186 : mCo 186 ∈ wsA := wsA_in (k := 456) rfl rfl
theorem cwr_0 : ∀ j ∈ [0, 1, 2, 3, 4, 5, 6, 7, 8, 9, 10, 11, 12, 13, 14, 15], mCo j ∈ wsA := List.forall_mem_cons.mpr ⟨cw_0, List.forall_mem_cons.mpr ⟨cw_1, List.forall_mem_cons.mpr ⟨cw_2, List.forall_mem_cons.mpr ⟨cw_3, List.forall_mem_cons.mpr ⟨cw_4, List.forall_mem_cons.mpr ⟨cw_5, List.forall_mem_cons.mpr ⟨cw_6, List.forall_mem_cons.mpr ⟨cw_7, List.forall_mem_cons.mpr ⟨cw_8, List.forall_mem_cons.mpr ⟨cw_9, List.forall_mem_cons.mpr ⟨cw_10, List.forall_mem_cons.mpr ⟨cw_11, List.forall_mem_cons.mpr ⟨cw_12, List.forall_mem_cons.mpr ⟨cw_13, List.forall_mem_cons.mpr ⟨cw_14, List.forall_mem_cons.mpr ⟨cw_15, fun _ h => absurd h List.not_mem_nil⟩⟩⟩⟩⟩⟩⟩⟩⟩⟩⟩⟩⟩⟩⟩⟩
theorem cwr_1 : ∀ j ∈ [16, 17, 18, 19, 20, 21, 22, 23, 24, 25, 26, 27, 28, 29, 30, 31], mCo j ∈ wsA := List.forall_mem_cons.mpr ⟨cw_16, List.forall_mem_cons.mpr ⟨cw_17, List.forall_mem_cons.mpr ⟨cw_18, List.forall_mem_cons.mpr ⟨cw_19, List.forall_mem_cons.mpr ⟨cw_20, List.forall_mem_cons.mpr ⟨cw_21, List.forall_mem_cons.mpr ⟨cw_22, List.forall_mem_cons.mpr ⟨cw_23, List.forall_mem_cons.mpr ⟨cw_24, List.forall_mem_cons.mpr ⟨cw_25, List.forall_mem_cons.mpr ⟨cw_26, List.forall_mem_cons.mpr ⟨cw_27, List.forall_mem_cons.mpr ⟨cw_28, List.forall_mem_cons.mpr ⟨cw_29, List.forall_mem_cons.mpr ⟨cw_30, List.forall_mem_cons.mpr ⟨cw_31, fun _ h => absurd h List.not_mem_nil⟩⟩⟩⟩⟩⟩⟩⟩⟩⟩⟩⟩⟩⟩⟩⟩
theorem cwr_2 : ∀ j ∈ [32, 33, 34, 35, 36, 37, 38, 39, 40, 41, 42, 43, 44, 45, 46, 47], mCo j ∈ wsA := List.forall_mem_cons.mpr ⟨cw_32, List.forall_mem_cons.mpr ⟨cw_33, List.forall_mem_cons.mpr ⟨cw_34, List.forall_mem_cons.mpr ⟨cw_35, List.forall_mem_cons.mpr ⟨cw_36, List.forall_mem_cons.mpr ⟨cw_37, List.forall_mem_cons.mpr ⟨cw_38, List.forall_mem_cons.mpr ⟨cw_39, List.forall_mem_cons.mpr ⟨cw_40, List.forall_mem_cons.mpr ⟨cw_41, List.forall_mem_cons.mpr ⟨cw_42, List.forall_mem_cons.mpr ⟨cw_43, List.forall_mem_cons.mpr ⟨cw_44, List.forall_mem_cons.mpr ⟨cw_45, List.forall_mem_cons.mpr ⟨cw_46, List.forall_mem_cons.mpr ⟨cw_47, fun _ h => absurd h List.not_mem_nil⟩⟩⟩⟩⟩⟩⟩⟩⟩⟩⟩⟩⟩⟩⟩⟩
theorem cwr_3 : ∀ j ∈ [48, 49, 50, 51, 52, 53, 54, 55, 56, 57, 58, 59, 60, 61, 62, 63], mCo j ∈ wsA := List.forall_mem_cons.mpr ⟨cw_48, List.forall_mem_cons.mpr ⟨cw_49, List.forall_mem_cons.mpr ⟨cw_50, List.forall_mem_cons.mpr ⟨cw_51, List.forall_mem_cons.mpr ⟨cw_52, List.forall_mem_cons.mpr ⟨cw_53, List.forall_mem_cons.mpr ⟨cw_54, List.forall_mem_cons.mpr ⟨cw_55, List.forall_mem_cons.mpr ⟨cw_56, List.forall_mem_cons.mpr ⟨cw_57, List.forall_mem_cons.mpr ⟨cw_58, List.forall_mem_cons.mpr ⟨cw_59, List.forall_mem_cons.mpr ⟨cw_60, List.forall_mem_cons.mpr ⟨cw_61, List.forall_mem_cons.mpr ⟨cw_62, List.forall_mem_cons.mpr ⟨cw_63, fun _ h => absurd h List.not_mem_nil⟩⟩⟩⟩⟩⟩⟩⟩⟩⟩⟩⟩⟩⟩⟩⟩
theorem cwr_4 : ∀ j ∈ [64, 65, 66, 67, 68, 69, 70, 71, 72, 73, 74, 75, 76, 77, 78, 79], mCo j ∈ wsA := List.forall_mem_cons.mpr ⟨cw_64, List.forall_mem_cons.mpr ⟨cw_65, List.forall_mem_cons.mpr ⟨cw_66, List.forall_mem_cons.mpr ⟨cw_67, List.forall_mem_cons.mpr ⟨cw_68, List.forall_mem_cons.mpr ⟨cw_69, List.forall_mem_cons.mpr ⟨cw_70, List.forall_mem_cons.mpr ⟨cw_71, List.forall_mem_cons.mpr ⟨cw_72, List.forall_mem_cons.mpr ⟨cw_73, List.forall_mem_cons.mpr ⟨cw_74, List.forall_mem_cons.mpr ⟨cw_75, List.forall_mem_cons.mpr ⟨cw_76, List.forall_mem_cons.mpr ⟨cw_77, List.forall_mem_cons.mpr ⟨cw_78, List.forall_mem_cons.mpr ⟨cw_79, fun _ h => absurd h List.not_mem_nil⟩⟩⟩⟩⟩⟩⟩⟩⟩⟩⟩⟩⟩⟩⟩⟩
theorem cwr_5 : ∀ j ∈ [80, 81, 82, 83, 84, 85, 86, 87, 88, 89, 90, 91, 92, 93, 94, 95], mCo j ∈ wsA := List.forall_mem_cons.mpr ⟨cw_80, List.forall_mem_cons.mpr ⟨cw_81, List.forall_mem_cons.mpr ⟨cw_82, List.forall_mem_cons.mpr ⟨cw_83, List.forall_mem_cons.mpr ⟨cw_84, List.forall_mem_cons.mpr ⟨cw_85, List.forall_mem_cons.mpr ⟨cw_86, List.forall_mem_cons.mpr ⟨cw_87, List.forall_mem_cons.mpr ⟨cw_88, List.forall_mem_cons.mpr ⟨cw_89, List.forall_mem_cons.mpr ⟨cw_90, List.forall_mem_cons.mpr ⟨cw_91, List.forall_mem_cons.mpr ⟨cw_92, List.forall_mem_cons.mpr ⟨cw_93, List.forall_mem_cons.mpr ⟨cw_94, List.forall_mem_cons.mpr ⟨cw_95, fun _ h => absurd h List.not_mem_nil⟩⟩⟩⟩⟩⟩⟩⟩⟩⟩⟩⟩⟩⟩⟩⟩
theorem cwr_6 : ∀ j ∈ [96, 97, 98, 99, 100, 101, 102, 103, 104, 105, 106, 107, 108, 109, 110, 111], mCo j ∈ wsA := List.forall_mem_cons.mpr ⟨cw_96, List.forall_mem_cons.mpr ⟨cw_97, List.forall_mem_cons.mpr ⟨cw_98, List.forall_mem_cons.mpr ⟨cw_99, List.forall_mem_cons.mpr ⟨cw_100, List.forall_mem_cons.mpr ⟨cw_101, List.forall_mem_cons.mpr ⟨cw_102, List.forall_mem_cons.mpr ⟨cw_103, List.forall_mem_cons.mpr ⟨cw_104, List.forall_mem_cons.mpr ⟨cw_105, List.forall_mem_cons.mpr ⟨cw_106, List.forall_mem_cons.mpr ⟨cw_107, List.forall_mem_cons.mpr ⟨cw_108, List.forall_mem_cons.mpr ⟨cw_109, List.forall_mem_cons.mpr ⟨cw_110, List.forall_mem_cons.mpr ⟨cw_111, fun _ h => absurd h List.not_mem_nil⟩⟩⟩⟩⟩⟩⟩⟩⟩⟩⟩⟩⟩⟩⟩⟩
theorem cwr_7 : ∀ j ∈ [112, 113, 114, 115, 116, 117, 118, 119, 120, 121, 122, 123, 124, 125, 126, 127], mCo j ∈ wsA := List.forall_mem_cons.mpr ⟨cw_112, List.forall_mem_cons.mpr ⟨cw_113, List.forall_mem_cons.mpr ⟨cw_114, List.forall_mem_cons.mpr ⟨cw_115, List.forall_mem_cons.mpr ⟨cw_116, List.forall_mem_cons.mpr ⟨cw_117, List.forall_mem_cons.mpr ⟨cw_118, List.forall_mem_cons.mpr ⟨cw_119, List.forall_mem_cons.mpr ⟨cw_120, List.forall_mem_cons.mpr ⟨cw_121, List.forall_mem_cons.mpr ⟨cw_122, List.forall_mem_cons.mpr ⟨cw_123, List.forall_mem_cons.mpr ⟨cw_124, List.forall_mem_cons.mpr ⟨cw_125, List.forall_mem_cons.mpr ⟨cw_126, List.forall_mem_cons.mpr ⟨cw_127, fun _ h => absurd h List.not_mem_nil⟩⟩⟩⟩⟩⟩⟩⟩⟩⟩⟩⟩⟩⟩⟩⟩
theorem cwr_8 : ∀ j ∈ [128, 129, 130, 131, 132, 133, 134, 135, 136, 137, 138, 139, 140, 141, 142, 143], mCo j ∈ wsA := List.forall_mem_cons.mpr ⟨cw_128, List.forall_mem_cons.mpr ⟨cw_129, List.forall_mem_cons.mpr ⟨cw_130, List.forall_mem_cons.mpr ⟨cw_131, List.forall_mem_cons.mpr ⟨cw_132, List.forall_mem_cons.mpr ⟨cw_133, List.forall_mem_cons.mpr ⟨cw_134, List.forall_mem_cons.mpr ⟨cw_135, List.forall_mem_cons.mpr ⟨cw_136, List.forall_mem_cons.mpr ⟨cw_137, List.forall_mem_cons.mpr ⟨cw_138, List.forall_mem_cons.mpr ⟨cw_139, List.forall_mem_cons.mpr ⟨cw_140, List.forall_mem_cons.mpr ⟨cw_141, List.forall_mem_cons.mpr ⟨cw_142, List.forall_mem_cons.mpr ⟨cw_143, fun _ h => absurd h List.not_mem_nil⟩⟩⟩⟩⟩⟩⟩⟩⟩⟩⟩⟩⟩⟩⟩⟩
theorem cwr_9 : ∀ j ∈ [144, 145, 146, 147, 148, 149, 150, 151, 152, 153, 154, 155, 156, 157, 158, 159], mCo j ∈ wsA := List.forall_mem_cons.mpr ⟨cw_144, List.forall_mem_cons.mpr ⟨cw_145, List.forall_mem_cons.mpr ⟨cw_146, List.forall_mem_cons.mpr ⟨cw_147, List.forall_mem_cons.mpr ⟨cw_148, List.forall_mem_cons.mpr ⟨cw_149, List.forall_mem_cons.mpr ⟨cw_150, List.forall_mem_cons.mpr ⟨cw_151, List.forall_mem_cons.mpr ⟨cw_152, List.forall_mem_cons.mpr ⟨cw_153, List.forall_mem_cons.mpr ⟨cw_154, List.forall_mem_cons.mpr ⟨cw_155, List.forall_mem_cons.mpr ⟨cw_156, List.forall_mem_cons.mpr ⟨cw_157, List.forall_mem_cons.mpr ⟨cw_158, List.forall_mem_cons.mpr ⟨cw_159, fun _ h => absurd h List.not_mem_nil⟩⟩⟩⟩⟩⟩⟩⟩⟩⟩⟩⟩⟩⟩⟩⟩
theorem cwr_10 : ∀ j ∈ [160, 161, 162, 163, 164, 165, 166, 167, 168, 169, 170, 171, 172, 173, 174, 175], mCo j ∈ wsA := List.forall_mem_cons.mpr ⟨cw_160, List.forall_mem_cons.mpr ⟨cw_161, List.forall_mem_cons.mpr ⟨cw_162, List.forall_mem_cons.mpr ⟨cw_163, List.forall_mem_cons.mpr ⟨cw_164, List.forall_mem_cons.mpr ⟨cw_165, List.forall_mem_cons.mpr ⟨cw_166, List.forall_mem_cons.mpr ⟨cw_167, List.forall_mem_cons.mpr ⟨cw_168, List.forall_mem_cons.mpr ⟨cw_169, List.forall_mem_cons.mpr ⟨cw_170, List.forall_mem_cons.mpr ⟨cw_171, List.forall_mem_cons.mpr ⟨cw_172, List.forall_mem_cons.mpr ⟨cw_173, List.forall_mem_cons.mpr ⟨cw_174, List.forall_mem_cons.mpr ⟨cw_175, fun _ h => absurd h List.not_mem_nil⟩⟩⟩⟩⟩⟩⟩⟩⟩⟩⟩⟩⟩⟩⟩⟩
theorem cwr_11 : ∀ j ∈ [176, 177, 178, 179, 180, 181, 182, 183, 184, 185, 186], mCo j ∈ wsA := List.forall_mem_cons.mpr ⟨cw_176, List.forall_mem_cons.mpr ⟨cw_177, List.forall_mem_cons.mpr ⟨cw_178, List.forall_mem_cons.mpr ⟨cw_179, List.forall_mem_cons.mpr ⟨cw_180, List.forall_mem_cons.mpr ⟨cw_181, List.forall_mem_cons.mpr ⟨cw_182, List.forall_mem_cons.mpr ⟨cw_183, List.forall_mem_cons.mpr ⟨cw_184, List.forall_mem_cons.mpr ⟨cw_185, List.forall_mem_cons.mpr ⟨cw_186, fun _ h => absurd h List.not_mem_nil⟩⟩⟩⟩⟩⟩⟩⟩⟩⟩⟩
theorem cw_all : ∀ j, j < 187 → mCo j ∈ wsA := by
  intro j hj
  have h : j ∈ [0, 1, 2, 3, 4, 5, 6, 7, 8, 9, 10, 11, 12, 13, 14, 15] ++ [16, 17, 18, 19, 20, 21, 22, 23, 24, 25, 26, 27, 28, 29, 30, 31] ++ [32, 33, 34, 35, 36, 37, 38, 39, 40, 41, 42, 43, 44, 45, 46, 47] ++ [48, 49, 50, 51, 52, 53, 54, 55, 56, 57, 58, 59, 60, 61, 62, 63] ++ [64, 65, 66, 67, 68, 69, 70, 71, 72, 73, 74, 75, 76, 77, 78, 79] ++ [80, 81, 82, 83, 84, 85, 86, 87, 88, 89, 90, 91, 92, 93, 94, 95] ++ [96, 97, 98, 99, 100, 101, 102, 103, 104, 105, 106, 107, 108, 109, 110, 111] ++ [112, 113, 114, 115, 116, 117, 118, 119, 120, 121, 122, 123, 124, 125, 126, 127] ++ [128, 129, 130, 131, 132, 133, 134, 135, 136, 137, 138, 139, 140, 141, 142, 143] ++ [144, 145, 146, 147, 148, 149, 150, 151, 152, 153, 154, 155, 156, 157, 158, 159] ++ [160, 161, 162, 163, 164, 165, 166, 167, 168, 169, 170, 171, 172, 173, 174, 175] ++ [176, 177, 178, 179, 180, 181, 182, 183, 184, 185, 186] := by
    have h0 : j ∈ List.range 187 := List.mem_range.mpr hj
    exact (show List.range 187 = [0, 1, 2, 3, 4, 5, 6, 7, 8, 9, 10, 11, 12, 13, 14, 15] ++ [16, 17, 18, 19, 20, 21, 22, 23, 24, 25, 26, 27, 28, 29, 30, 31] ++ [32, 33, 34, 35, 36, 37, 38, 39, 40, 41, 42, 43, 44, 45, 46, 47] ++ [48, 49, 50, 51, 52, 53, 54, 55, 56, 57, 58, 59, 60, 61, 62, 63] ++ [64, 65, 66, 67, 68, 69, 70, 71, 72, 73, 74, 75, 76, 77, 78, 79] ++ [80, 81, 82, 83, 84, 85, 86, 87, 88, 89, 90, 91, 92, 93, 94, 95] ++ [96, 97, 98, 99, 100, 101, 102, 103, 104, 105, 106, 107, 108, 109, 110, 111] ++ [112, 113, 114, 115, 116, 117, 118, 119, 120, 121, 122, 123, 124, 125, 126, 127] ++ [128, 129, 130, 131, 132, 133, 134, 135, 136, 137, 138, 139, 140, 141, 142, 143] ++ [144, 145, 146, 147, 148, 149, 150, 151, 152, 153, 154, 155, 156, 157, 158, 159] ++ [160, 161, 162, 163, 164, 165, 166, 167, 168, 169, 170, 171, 172, 173, 174, 175] ++ [176, 177, 178, 179, 180, 181, 182, 183, 184, 185, 186] by decide +kernel) ▸ h0
  rcases List.mem_append.mp h with h | h
  rotate_left
  · exact cwr_11 j h
  rcases List.mem_append.mp h with h | h
  rotate_left
  · exact cwr_10 j h
  rcases List.mem_append.mp h with h | h
  rotate_left
  · exact cwr_9 j h
  rcases List.mem_append.mp h with h | h
  rotate_left
  · exact cwr_8 j h
  rcases List.mem_append.mp h with h | h
  rotate_left
  · exact cwr_7 j h
  rcases List.mem_append.mp h with h | h
  rotate_left
  · exact cwr_6 j h
  rcases List.mem_append.mp h with h | h
  rotate_left
  · exact cwr_5 j h
  rcases List.mem_append.mp h with h | h
  rotate_left
  · exact cwr_4 j h
  rcases List.mem_append.mp h with h | h
  rotate_left
  · exact cwr_3 j h
  rcases List.mem_append.mp h with h | h
  rotate_left
  · exact cwr_2 j h
  rcases List.mem_append.mp h with h | h
  rotate_left
  · exact cwr_1 j h
  exact cwr_0 j h
def wAt (k : Nat) (w : Cond) : Bool := decide (lw_tbl[k]? = some w)
theorem wAt_in {k : Nat} {w : Cond} (h : wAt k w = true) (hg : goodWord w = true) : w ∈ wsA := wsA_in (of_decide_eq_true h) hg
def chkM (j : Nat) : Bool := match wpT[j]? with
  | some (_, b, c, d) => wAt b (.initialized (mY j).cls) && decide ((mY j).cls ≠ "java/lang/invoke/MethodHandle") && decide ((mY j).cls ≠ "java/lang/invoke/VarHandle") && decide ((parseMethodDescriptor (mY j).desc).map (fun d => d.parameters.length) = some (mN j)) && decide ((mY j).cls = oS (mO j)) && (match mK j with
    | 0 => wAt c (.instanceMethod (mY j)) && wAt d (.selects (mY j).cls (mY j) (mY j))
    | 1 => wAt c (.static (mY j))
    | _ => wAt c (.instanceMethod (mY j)) && decide ((mY j).name = "<init>") && decide (mR j = none))
  | none => false
theorem chkM_all : (List.range 187).all chkM = true := by decide +kernel
theorem plain_o : ∀ o, o < 9 → plainName (oS o) = true := by decide
theorem mO_lt : (List.range 187).all (fun j => decide (mO j < 9)) = true := by decide +kernel
theorem mOK {j : Nat} (hj : j < 187) : plainName (mY j).cls = true ∧ .initialized (mY j).cls ∈ wsA ∧ ((mY j).cls ≠ "java/lang/invoke/MethodHandle" ∧ (mY j).cls ≠ "java/lang/invoke/VarHandle") ∧ (parseMethodDescriptor (mY j).desc).map (fun d => d.parameters.length) = some (mN j) ∧ (mY j).cls = oS (mO j) ∧ (mK j = 0 → .instanceMethod (mY j) ∈ wsA ∧ .selects (mY j).cls (mY j) (mY j) ∈ wsA) ∧ (mK j = 1 → .static (mY j) ∈ wsA) ∧ (mK j = 2 → .instanceMethod (mY j) ∈ wsA ∧ (mY j).name = "<init>" ∧ mR j = none) := by
  have h := List.all_eq_true.mp chkM_all j (List.mem_range.mpr hj)
  unfold chkM at h
  split at h
  · rename_i a b c d hw
    simp only [Bool.and_eq_true, decide_eq_true_eq] at h
    obtain ⟨⟨⟨⟨⟨h2, h3⟩, h4⟩, h5⟩, h6⟩, h7⟩ := h
    refine ⟨by rw [h6]; exact plain_o _ (of_decide_eq_true (List.all_eq_true.mp mO_lt j (List.mem_range.mpr hj))), wAt_in h2 rfl, ⟨h3, h4⟩, h5, h6, fun e => ?_, fun e => ?_, fun e => ?_⟩
    · rw [e] at h7; simp only [Bool.and_eq_true] at h7; exact ⟨wAt_in h7.1 rfl, wAt_in h7.2 rfl⟩
    · rw [e] at h7; exact wAt_in h7 rfl
    · rw [e] at h7; simp only [Bool.and_eq_true, decide_eq_true_eq] at h7; exact ⟨wAt_in h7.1.1 rfl, h7.1.2, h7.2⟩
  · cases h
def chkC (o : Nat) : Bool := ((clT.getD o []).zip (cpT.getD o [])).all fun e => wAt e.2 (.methodLink (oS o) e.1.1 (if e.1.2 = 1000 then objectInit else if e.1.2 = 1001 then arraycopyName else mY e.1.2))
theorem chkC_all : (List.range 11).all (fun o => chkC o && decide ((clT.getD o []).length = (cpT.getD o []).length)) = true := by decide +kernel
def chkF (o : Nat) : Bool := ((flT.getD o []).zip (fpT.getD o [])).all fun e => match vwCl[e.1.2.1]? with
  | some (_, T, n) => decide (e.1.2.2 < n) && wAt e.2 (.fieldLink (oS o) e.1.1 (T e.1.2.2).1 (T e.1.2.2).2.1 (T e.1.2.2).2.2.1) && decide ((T e.1.2.2).1 = oS o)
  | none => false
theorem chkF_all : (List.range 11).all (fun o => chkF o && decide ((flT.getD o []).length = (fpT.getD o []).length)) = true := by decide +kernel
def chkK (o : Nat) : Bool := ((cnT.getD o []).zip (kpT.getD o [])).all fun e => match e.1.2 with
  | .int z => wAt e.2 (.constant (oS o) e.1.1 z)
  | .long z => wAt e.2 (.constantLong (oS o) e.1.1 z)
  | _ => false
theorem chkK_all : (List.range 11).all (fun o => chkK o && decide ((cnT.getD o []).length = (kpT.getD o []).length)) = true := by decide +kernel
theorem zip_mem {α β : Type} {l : List α} {r : List β} (h : l.length = r.length) {a : α} (ha : a ∈ l) : ∃ b, (a, b) ∈ l.zip r := by
  obtain ⟨k, hk⟩ := List.getElem?_of_mem ha
  have hl := (List.getElem?_eq_some_iff.mp hk).1
  obtain ⟨b, hb⟩ : ∃ b, r[k]? = some b := ⟨r[k]'(by omega), List.getElem?_eq_getElem (by omega)⟩
  exact ⟨b, List.mem_of_getElem? (i := k) (by rw [List.getElem?_zip_eq_some]; exact ⟨hk, hb⟩)⟩
theorem getD_out {α : Type} {l : List (List α)} {o : Nat} (h : l.length ≤ o) : l.getD o [] = [] := by
  rw [List.getD_eq_getElem?_getD, List.getElem?_eq_none h]; rfl
theorem cLk_ok {o ix j : Nat} (h : cLk o ix = some j) : .methodLink (oS o) ix (if j = 1000 then objectInit else if j = 1001 then arraycopyName else mY j) ∈ wsA := by
  unfold cLk at h
  by_cases ho : o < 11
  · have h1 := List.all_eq_true.mp chkC_all o (List.mem_range.mpr ho)
    simp only [Bool.and_eq_true, decide_eq_true_eq] at h1
    obtain ⟨b, hb⟩ := zip_mem h1.2 (lookup_mem h)
    have h2 := List.all_eq_true.mp h1.1 _ hb
    exact wAt_in h2 rfl
  · rw [getD_out (by show 11 ≤ o; omega)] at h
    cases h
theorem fLk_ok {o ix ci k : Nat} (h : fLk o ix = some (ci, k)) : ∃ (C : String) (T : u_T) (n : Nat), vwCl[ci]? = some (C, T, n) ∧ k < n ∧ .fieldLink (oS o) ix (T k).1 (T k).2.1 (T k).2.2.1 ∈ wsA ∧ (T k).1 = oS o := by
  unfold fLk at h
  by_cases ho : o < 11
  · have h1 := List.all_eq_true.mp chkF_all o (List.mem_range.mpr ho)
    simp only [Bool.and_eq_true, decide_eq_true_eq] at h1
    obtain ⟨b, hb⟩ := zip_mem h1.2 (lookup_mem h)
    have h2 := List.all_eq_true.mp h1.1 _ hb
    dsimp only at h2
    split at h2
    · rename_i C T n hv
      simp only [Bool.and_eq_true, decide_eq_true_eq] at h2
      exact ⟨C, T, n, hv, h2.1.1, wAt_in h2.1.2 rfl, h2.2⟩
    · cases h2
  · rw [getD_out (by show 11 ≤ o; omega)] at h
    cases h
theorem kLk_ok {o ix : Nat} {v : Value} (h : kLk o ix = some v) : (∃ z, v = .int z ∧ .constant (oS o) ix z ∈ wsA) ∨ ∃ z, v = .long z ∧ .constantLong (oS o) ix z ∈ wsA := by
  unfold kLk at h
  by_cases ho : o < 11
  · have h1 := List.all_eq_true.mp chkK_all o (List.mem_range.mpr ho)
    simp only [Bool.and_eq_true, decide_eq_true_eq] at h1
    obtain ⟨b, hb⟩ := zip_mem h1.2 (lookup_mem h)
    have h2 := List.all_eq_true.mp h1.1 _ hb
    dsimp only at h2
    cases v with
    | int z => exact Or.inl ⟨z, rfl, wAt_in h2 rfl⟩
    | long z => exact Or.inr ⟨z, rfl, wAt_in h2 rfl⟩
    | _ => cases h2
  · rw [getD_out (by show 11 ≤ o; omega)] at h
    cases h
def chkN (o : Nat) : Bool := ((nwT.getD o []).all fun e => match vwCl[e.2]? with
  | some (C, _, _) => decide (.classLink (oS o) e.1 C ∈ lw_tbl)
  | none => false) && ((mnT.getD o []).all fun e => (decide (e.2 = 3) && decide (.classLink (oS o) e.1 ("[" ++ (FieldType.array .int).toString) ∈ lw_tbl)) || (decide (e.2 = 4) && decide (.classLink (oS o) e.1 ("[" ++ (FieldType.array .long).toString) ∈ lw_tbl)))
theorem chkN_all : (List.range 11).all chkN = true := by decide +kernel
theorem nLk_ok {o ix ci : Nat} (h : nLk o ix = some ci) : ∃ (C : String) (T : u_T) (n : Nat), vwCl[ci]? = some (C, T, n) ∧ .classLink (oS o) ix C ∈ wsA := by
  unfold nLk at h
  by_cases ho : o < 11
  · have h1 := List.all_eq_true.mp chkN_all o (List.mem_range.mpr ho)
    unfold chkN at h1
    rw [Bool.and_eq_true] at h1
    have h2 := List.all_eq_true.mp h1.1 _ (lookup_mem h)
    dsimp only at h2
    split at h2
    · rename_i C T n hv
      exact ⟨C, T, n, hv, List.mem_filter.mpr ⟨of_decide_eq_true h2, rfl⟩⟩
    · cases h2
  · rw [getD_out (by show 11 ≤ o; omega)] at h
    cases h
theorem rLk_ok {o ix t : Nat} (h : rLk o ix = some t) : (t = 3 ∧ .classLink (oS o) ix ("[" ++ (FieldType.array .int).toString) ∈ wsA) ∨ (t = 4 ∧ .classLink (oS o) ix ("[" ++ (FieldType.array .long).toString) ∈ wsA) := by
  unfold rLk at h
  by_cases ho : o < 11
  · have h1 := List.all_eq_true.mp chkN_all o (List.mem_range.mpr ho)
    unfold chkN at h1
    rw [Bool.and_eq_true] at h1
    have h2 := List.all_eq_true.mp h1.2 _ (lookup_mem h)
    simp only [Bool.or_eq_true, Bool.and_eq_true, decide_eq_true_eq] at h2
    rcases h2 with ⟨a, b⟩ | ⟨a, b⟩
    · exact Or.inl ⟨a, List.mem_filter.mpr ⟨b, rfl⟩⟩
    · exact Or.inr ⟨a, List.mem_filter.mpr ⟨b, rfl⟩⟩
  · rw [getD_out (by show 11 ≤ o; omega)] at h
    cases h
/-- what is known of a class -/
def clsOK (ci : Nat) (C : String) (T : u_T) (n : Nat) : Prop := (∀ w ∈ u_ws C T n, w ∈ lw_tbl) ∧ (∀ k, k < n → parseFieldDescriptor (T k).2.2.1 = some (xTy ci k)) ∧ (∀ a, a < n → ∀ b, b < n → a ≠ b → (T a).2.1 ≠ (T b).2.1) ∧ C = oS ci ∧ (dFs ci).length = n ∧ (∀ j, j < n → defaultValue (xTy ci j) = vp_V (dFs ci) j) ∧ Cond.instantiable C n ∈ lw_tbl ∧ Cond.initialized C ∈ lw_tbl
theorem cls_0 : clsOK 0 RX0 TX0 6 := ⟨by decide +kernel, by decide +kernel, by decide +kernel, by decide +kernel, by decide +kernel, by decide +kernel, by decide +kernel, by decide +kernel⟩
theorem cls_1 : clsOK 1 RX1 TX1 11 := ⟨by decide +kernel, by decide +kernel, by decide +kernel, by decide +kernel, by decide +kernel, by decide +kernel, by decide +kernel, by decide +kernel⟩
theorem cls_2 : clsOK 2 RX2 TX2 6 := ⟨by decide +kernel, by decide +kernel, by decide +kernel, by decide +kernel, by decide +kernel, by decide +kernel, by decide +kernel, by decide +kernel⟩
theorem cls_3 : clsOK 3 RX3 TX3 3 := ⟨by decide +kernel, by decide +kernel, by decide +kernel, by decide +kernel, by decide +kernel, by decide +kernel, by decide +kernel, by decide +kernel⟩
theorem cls_4 : clsOK 4 RX4 TX4 6 := ⟨by decide +kernel, by decide +kernel, by decide +kernel, by decide +kernel, by decide +kernel, by decide +kernel, by decide +kernel, by decide +kernel⟩
theorem cls_5 : clsOK 5 RX5 TX5 3 := ⟨by decide +kernel, by decide +kernel, by decide +kernel, by decide +kernel, by decide +kernel, by decide +kernel, by decide +kernel, by decide +kernel⟩
theorem cls_6 : clsOK 6 RX6 TX6 11 := ⟨by decide +kernel, by decide +kernel, by decide +kernel, by decide +kernel, by decide +kernel, by decide +kernel, by decide +kernel, by decide +kernel⟩
theorem cls_7 : clsOK 7 RX7 TX7 41 := ⟨by decide +kernel, by decide +kernel, by decide +kernel, by decide +kernel, by decide +kernel, by decide +kernel, by decide +kernel, by decide +kernel⟩
theorem cls_ok {ci : Nat} {C : String} {T : u_T} {n : Nat} (h : vwCl[ci]? = some (C, T, n)) : clsOK ci C T n := by
  match ci, h with
  | 0, h => cases h; exact cls_0
  | 1, h => cases h; exact cls_1
  | 2, h => cases h; exact cls_2
  | 3, h => cases h; exact cls_3
  | 4, h => cases h; exact cls_4
  | 5, h => cases h; exact cls_5
  | 6, h => cases h; exact cls_6
  | 7, h => cases h; exact cls_7
  | ci + 8, h => simp [vwCl] at h
theorem u_in {C : String} {T : u_T} {n : Nat} {ci : Nat} (h : clsOK ci C T n) : ∀ w ∈ u_ws C T n, w ∈ wsA := by
  intro w hw
  refine List.mem_filter.mpr ⟨h.1 w hw, ?_⟩
  obtain ⟨k, -, rfl⟩ := List.mem_map.mp hw
  unfold u_lay
  split <;> rfl
