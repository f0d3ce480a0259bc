theorem getD_lt2 {α : Type} {l : List (Option α)} {i : Nat} {v : α} (h : l.getD i none = some v) : i < l.length := by
  rcases Nat.lt_or_ge i l.length with q | q
  · exact q
  · rw [List.getD_eq_getElem?_getD, List.getElem?_eq_none q] at h
    cases h
def OKm (m : Nat) : Prop := ∀ pc ri, (P0.1 m).2.getD pc none = some ri → RIok sx0 (Y0 m).1.cls (decide ((Y0 m).1.name = "<init>")) (Y0 m).2.2 (Y0 m).2.1 pc ri ∧ CLok P0 Y0 (Y0 m).1.cls ri ∧ (∀ idx, ri.1 = .invokestatic idx → ri.2.1 = 9997 → (Y0 m).1.cls = "EchoTuneLaw" ∧ Cond.methodLink "EchoTuneLaw" idx yVoice ∈ WS) ∧ (∀ idx, ri.1 = .invokevirtual idx → ri.2.1 ≠ 9997) ∧ ∀ idx, ri.1 = .invokespecial idx → ri.2.1 ≠ 9997
theorem ok_of {m o : Nat} {init : Bool} (hc : (Y0 m).1.cls = cN o) (hi : decide ((Y0 m).1.name = "<init>") = init) (h : ckL (Y0 m).2.1 o init (Y0 m).2.2 (P0.1 m).2 0 = true) : OKm m := by
  intro pc ri hg
  obtain ⟨h1, h2, h3⟩ := ckL_get _ 0 h pc ri hg
  rw [Nat.zero_add] at h1 h2
  rw [hc, hi]
  exact ⟨⟨h1, lkB_ok h2⟩, clB_ok mf_all h3⟩
theorem ok_0 : OKm 0 := ok_of (m := 0) (o := 14) (init := false) rfl (by decide +kernel) ck_0
theorem ok_1 : OKm 1 := ok_of (m := 1) (o := 14) (init := false) rfl (by decide +kernel) ck_1
theorem ok_2 : OKm 2 := ok_of (m := 2) (o := 14) (init := false) rfl (by decide +kernel) ck_2
theorem ok_3 : OKm 3 := ok_of (m := 3) (o := 14) (init := false) rfl (by decide +kernel) ck_3
theorem ok_4 : OKm 4 := ok_of (m := 4) (o := 15) (init := false) rfl (by decide +kernel) ck_4
theorem ok_5 : OKm 5 := ok_of (m := 5) (o := 15) (init := false) rfl (by decide +kernel) ck_5
theorem ok_6 : OKm 6 := ok_of (m := 6) (o := 15) (init := false) rfl (by decide +kernel) ck_6
theorem ok_7 : OKm 7 := ok_of (m := 7) (o := 15) (init := false) rfl (by decide +kernel) ck_7
theorem ok_8 : OKm 8 := ok_of (m := 8) (o := 16) (init := false) rfl (by decide +kernel) ck_8
theorem ok_9 : OKm 9 := ok_of (m := 9) (o := 16) (init := false) rfl (by decide +kernel) ck_9
theorem ok_10 : OKm 10 := ok_of (m := 10) (o := 16) (init := false) rfl (by decide +kernel) ck_10
theorem ok_11 : OKm 11 := ok_of (m := 11) (o := 16) (init := false) rfl (by decide +kernel) ck_11
theorem ok_12 : OKm 12 := ok_of (m := 12) (o := 16) (init := false) rfl (by decide +kernel) ck_12
theorem ok_13 : OKm 13 := ok_of (m := 13) (o := 16) (init := false) rfl (by decide +kernel) ck_13
theorem ok_14 : OKm 14 := ok_of (m := 14) (o := 16) (init := false) rfl (by decide +kernel) ck_14
theorem ok_15 : OKm 15 := ok_of (m := 15) (o := 17) (init := false) rfl (by decide +kernel) ck_15
theorem ok_16 : OKm 16 := ok_of (m := 16) (o := 17) (init := false) rfl (by decide +kernel) ck_16
theorem ok_17 : OKm 17 := ok_of (m := 17) (o := 17) (init := false) rfl (by decide +kernel) ck_17
theorem ok_18 : OKm 18 := ok_of (m := 18) (o := 17) (init := false) rfl (by decide +kernel) ck_18
theorem ok_19 : OKm 19 := ok_of (m := 19) (o := 18) (init := false) rfl (by decide +kernel) ck_19
theorem ok_20 : OKm 20 := ok_of (m := 20) (o := 0) (init := true) rfl (by decide +kernel) ck_20
theorem ok_21 : OKm 21 := ok_of (m := 21) (o := 0) (init := false) rfl (by decide +kernel) ck_21
theorem ok_22 : OKm 22 := ok_of (m := 22) (o := 0) (init := false) rfl (by decide +kernel) ck_22
theorem ok_23 : OKm 23 := ok_of (m := 23) (o := 0) (init := false) rfl (by decide +kernel) ck_23
theorem ok_24 : OKm 24 := ok_of (m := 24) (o := 0) (init := false) rfl (by decide +kernel) ck_24
theorem ok_25 : OKm 25 := ok_of (m := 25) (o := 0) (init := false) rfl (by decide +kernel) ck_25
theorem ok_26 : OKm 26 := ok_of (m := 26) (o := 0) (init := false) rfl (by decide +kernel) ck_26
theorem ok_27 : OKm 27 := ok_of (m := 27) (o := 0) (init := false) rfl (by decide +kernel) ck_27
theorem ok_28 : OKm 28 := ok_of (m := 28) (o := 0) (init := false) rfl (by decide +kernel) ck_28
theorem ok_29 : OKm 29 := ok_of (m := 29) (o := 0) (init := false) rfl (by decide +kernel) ck_29
theorem ok_30 : OKm 30 := ok_of (m := 30) (o := 0) (init := false) rfl (by decide +kernel) ck_30
theorem ok_31 : OKm 31 := ok_of (m := 31) (o := 0) (init := false) rfl (by decide +kernel) ck_31
theorem ok_32 : OKm 32 := ok_of (m := 32) (o := 0) (init := false) rfl (by decide +kernel) ck_32
theorem ok_33 : OKm 33 := ok_of (m := 33) (o := 0) (init := false) rfl (by decide +kernel) ck_33
theorem ok_34 : OKm 34 := ok_of (m := 34) (o := 0) (init := false) rfl (by decide +kernel) ck_34
theorem ok_35 : OKm 35 := ok_of (m := 35) (o := 0) (init := false) rfl (by decide +kernel) ck_35
theorem ok_36 : OKm 36 := ok_of (m := 36) (o := 0) (init := false) rfl (by decide +kernel) ck_36
theorem ok_37 : OKm 37 := ok_of (m := 37) (o := 0) (init := false) rfl (by decide +kernel) ck_37
theorem ok_38 : OKm 38 := ok_of (m := 38) (o := 0) (init := false) rfl (by decide +kernel) ck_38
theorem ok_39 : OKm 39 := ok_of (m := 39) (o := 0) (init := false) rfl (by decide +kernel) ck_39
theorem ok_40 : OKm 40 := ok_of (m := 40) (o := 0) (init := false) rfl (by decide +kernel) ck_40
theorem ok_41 : OKm 41 := ok_of (m := 41) (o := 0) (init := false) rfl (by decide +kernel) ck_41
theorem ok_42 : OKm 42 := ok_of (m := 42) (o := 0) (init := false) rfl (by decide +kernel) ck_42
theorem ok_43 : OKm 43 := ok_of (m := 43) (o := 0) (init := false) rfl (by decide +kernel) ck_43
theorem ok_44 : OKm 44 := ok_of (m := 44) (o := 0) (init := false) rfl (by decide +kernel) ck_44
theorem ok_45 : OKm 45 := ok_of (m := 45) (o := 0) (init := false) rfl (by decide +kernel) ck_45
theorem ok_46 : OKm 46 := ok_of (m := 46) (o := 0) (init := false) rfl (by decide +kernel) ck_46
theorem ok_47 : OKm 47 := ok_of (m := 47) (o := 0) (init := false) rfl (by decide +kernel) ck_47
theorem ok_48 : OKm 48 := ok_of (m := 48) (o := 0) (init := false) rfl (by decide +kernel) ck_48
theorem ok_49 : OKm 49 := ok_of (m := 49) (o := 0) (init := false) rfl (by decide +kernel) ck_49
theorem ok_50 : OKm 50 := ok_of (m := 50) (o := 0) (init := false) rfl (by decide +kernel) ck_50
theorem ok_51 : OKm 51 := ok_of (m := 51) (o := 0) (init := false) rfl (by decide +kernel) ck_51
theorem ok_52 : OKm 52 := ok_of (m := 52) (o := 0) (init := false) rfl (by decide +kernel) ck_52
theorem ok_53 : OKm 53 := ok_of (m := 53) (o := 0) (init := false) rfl (by decide +kernel) ck_53
theorem ok_54 : OKm 54 := ok_of (m := 54) (o := 0) (init := false) rfl (by decide +kernel) ck_54
theorem ok_55 : OKm 55 := ok_of (m := 55) (o := 0) (init := false) rfl (by decide +kernel) ck_55
theorem ok_56 : OKm 56 := ok_of (m := 56) (o := 0) (init := false) rfl (by decide +kernel) ck_56
theorem ok_57 : OKm 57 := ok_of (m := 57) (o := 1) (init := true) rfl (by decide +kernel) ck_57
theorem ok_58 : OKm 58 := ok_of (m := 58) (o := 1) (init := false) rfl (by decide +kernel) ck_58
theorem ok_59 : OKm 59 := ok_of (m := 59) (o := 1) (init := false) rfl (by decide +kernel) ck_59
theorem ok_60 : OKm 60 := ok_of (m := 60) (o := 1) (init := false) rfl (by decide +kernel) ck_60
theorem ok_61 : OKm 61 := ok_of (m := 61) (o := 1) (init := false) rfl (by decide +kernel) ck_61
theorem ok_62 : OKm 62 := ok_of (m := 62) (o := 1) (init := false) rfl (by decide +kernel) ck_62
theorem ok_63 : OKm 63 := ok_of (m := 63) (o := 1) (init := false) rfl (by decide +kernel) ck_63
theorem ok_64 : OKm 64 := ok_of (m := 64) (o := 1) (init := false) rfl (by decide +kernel) ck_64
theorem ok_65 : OKm 65 := ok_of (m := 65) (o := 1) (init := false) rfl (by decide +kernel) ck_65
theorem ok_66 : OKm 66 := ok_of (m := 66) (o := 1) (init := false) rfl (by decide +kernel) ck_66
theorem ok_67 : OKm 67 := ok_of (m := 67) (o := 1) (init := false) rfl (by decide +kernel) ck_67
theorem ok_68 : OKm 68 := ok_of (m := 68) (o := 1) (init := false) rfl (by decide +kernel) ck_68
theorem ok_69 : OKm 69 := ok_of (m := 69) (o := 1) (init := false) rfl (by decide +kernel) ck_69
theorem ok_70 : OKm 70 := ok_of (m := 70) (o := 1) (init := false) rfl (by decide +kernel) ck_70
theorem ok_71 : OKm 71 := ok_of (m := 71) (o := 1) (init := false) rfl (by decide +kernel) ck_71
theorem ok_72 : OKm 72 := ok_of (m := 72) (o := 2) (init := true) rfl (by decide +kernel) ck_72
theorem ok_73 : OKm 73 := ok_of (m := 73) (o := 2) (init := false) rfl (by decide +kernel) ck_73
theorem ok_74 : OKm 74 := ok_of (m := 74) (o := 2) (init := false) rfl (by decide +kernel) ck_74
theorem ok_75 : OKm 75 := ok_of (m := 75) (o := 2) (init := false) rfl (by decide +kernel) ck_75
theorem ok_76 : OKm 76 := ok_of (m := 76) (o := 2) (init := false) rfl (by decide +kernel) ck_76
theorem ok_77 : OKm 77 := ok_of (m := 77) (o := 2) (init := false) rfl (by decide +kernel) ck_77
theorem ok_78 : OKm 78 := ok_of (m := 78) (o := 2) (init := false) rfl (by decide +kernel) ck_78
theorem ok_79 : OKm 79 := ok_of (m := 79) (o := 2) (init := false) rfl (by decide +kernel) ck_79
theorem ok_80 : OKm 80 := ok_of (m := 80) (o := 2) (init := false) rfl (by decide +kernel) ck_80
theorem ok_81 : OKm 81 := ok_of (m := 81) (o := 2) (init := false) rfl (by decide +kernel) ck_81
theorem ok_82 : OKm 82 := ok_of (m := 82) (o := 2) (init := false) rfl (by decide +kernel) ck_82
theorem ok_83 : OKm 83 := ok_of (m := 83) (o := 2) (init := false) rfl (by decide +kernel) ck_83
theorem ok_84 : OKm 84 := ok_of (m := 84) (o := 3) (init := true) rfl (by decide +kernel) ck_84
theorem ok_85 : OKm 85 := ok_of (m := 85) (o := 3) (init := false) rfl (by decide +kernel) ck_85
theorem ok_86 : OKm 86 := ok_of (m := 86) (o := 3) (init := false) rfl (by decide +kernel) ck_86
theorem ok_87 : OKm 87 := ok_of (m := 87) (o := 3) (init := false) rfl (by decide +kernel) ck_87
theorem ok_88 : OKm 88 := ok_of (m := 88) (o := 3) (init := false) rfl (by decide +kernel) ck_88
theorem ok_89 : OKm 89 := ok_of (m := 89) (o := 3) (init := false) rfl (by decide +kernel) ck_89
theorem ok_90 : OKm 90 := ok_of (m := 90) (o := 3) (init := false) rfl (by decide +kernel) ck_90
theorem ok_91 : OKm 91 := ok_of (m := 91) (o := 3) (init := false) rfl (by decide +kernel) ck_91
theorem ok_92 : OKm 92 := ok_of (m := 92) (o := 3) (init := false) rfl (by decide +kernel) ck_92
theorem ok_93 : OKm 93 := ok_of (m := 93) (o := 3) (init := false) rfl (by decide +kernel) ck_93
theorem ok_94 : OKm 94 := ok_of (m := 94) (o := 3) (init := false) rfl (by decide +kernel) ck_94
theorem ok_95 : OKm 95 := ok_of (m := 95) (o := 4) (init := true) rfl (by decide +kernel) ck_95
theorem ok_96 : OKm 96 := ok_of (m := 96) (o := 4) (init := false) rfl (by decide +kernel) ck_96
theorem ok_97 : OKm 97 := ok_of (m := 97) (o := 4) (init := false) rfl (by decide +kernel) ck_97
theorem ok_98 : OKm 98 := ok_of (m := 98) (o := 4) (init := false) rfl (by decide +kernel) ck_98
theorem ok_99 : OKm 99 := ok_of (m := 99) (o := 4) (init := false) rfl (by decide +kernel) ck_99
theorem ok_100 : OKm 100 := ok_of (m := 100) (o := 4) (init := false) rfl (by decide +kernel) ck_100
theorem ok_101 : OKm 101 := ok_of (m := 101) (o := 4) (init := false) rfl (by decide +kernel) ck_101
theorem ok_102 : OKm 102 := ok_of (m := 102) (o := 4) (init := false) rfl (by decide +kernel) ck_102
theorem ok_103 : OKm 103 := ok_of (m := 103) (o := 4) (init := false) rfl (by decide +kernel) ck_103
theorem ok_104 : OKm 104 := ok_of (m := 104) (o := 4) (init := false) rfl (by decide +kernel) ck_104
theorem ok_105 : OKm 105 := ok_of (m := 105) (o := 4) (init := false) rfl (by decide +kernel) ck_105
theorem ok_106 : OKm 106 := ok_of (m := 106) (o := 4) (init := false) rfl (by decide +kernel) ck_106
theorem ok_107 : OKm 107 := ok_of (m := 107) (o := 4) (init := false) rfl (by decide +kernel) ck_107
theorem ok_108 : OKm 108 := ok_of (m := 108) (o := 4) (init := false) rfl (by decide +kernel) ck_108
theorem ok_109 : OKm 109 := ok_of (m := 109) (o := 4) (init := false) rfl (by decide +kernel) ck_109
theorem ok_110 : OKm 110 := ok_of (m := 110) (o := 4) (init := false) rfl (by decide +kernel) ck_110
theorem ok_111 : OKm 111 := ok_of (m := 111) (o := 4) (init := false) rfl (by decide +kernel) ck_111
theorem ok_112 : OKm 112 := ok_of (m := 112) (o := 4) (init := false) rfl (by decide +kernel) ck_112
theorem ok_113 : OKm 113 := ok_of (m := 113) (o := 5) (init := true) rfl (by decide +kernel) ck_113
theorem ok_114 : OKm 114 := ok_of (m := 114) (o := 5) (init := false) rfl (by decide +kernel) ck_114
theorem ok_115 : OKm 115 := ok_of (m := 115) (o := 5) (init := false) rfl (by decide +kernel) ck_115
theorem ok_116 : OKm 116 := ok_of (m := 116) (o := 5) (init := false) rfl (by decide +kernel) ck_116
theorem ok_117 : OKm 117 := ok_of (m := 117) (o := 5) (init := false) rfl (by decide +kernel) ck_117
theorem ok_118 : OKm 118 := ok_of (m := 118) (o := 5) (init := false) rfl (by decide +kernel) ck_118
theorem ok_119 : OKm 119 := ok_of (m := 119) (o := 5) (init := false) rfl (by decide +kernel) ck_119
theorem ok_120 : OKm 120 := ok_of (m := 120) (o := 6) (init := true) rfl (by decide +kernel) ck_120
theorem ok_121 : OKm 121 := ok_of (m := 121) (o := 6) (init := false) rfl (by decide +kernel) ck_121
theorem ok_122 : OKm 122 := ok_of (m := 122) (o := 6) (init := false) rfl (by decide +kernel) ck_122
theorem ok_123 : OKm 123 := ok_of (m := 123) (o := 6) (init := false) rfl (by decide +kernel) ck_123
theorem ok_124 : OKm 124 := ok_of (m := 124) (o := 6) (init := false) rfl (by decide +kernel) ck_124
theorem ok_125 : OKm 125 := ok_of (m := 125) (o := 6) (init := false) rfl (by decide +kernel) ck_125
theorem ok_126 : OKm 126 := ok_of (m := 126) (o := 6) (init := false) rfl (by decide +kernel) ck_126
theorem ok_127 : OKm 127 := ok_of (m := 127) (o := 6) (init := false) rfl (by decide +kernel) ck_127
theorem ok_128 : OKm 128 := ok_of (m := 128) (o := 6) (init := false) rfl (by decide +kernel) ck_128
theorem ok_129 : OKm 129 := ok_of (m := 129) (o := 6) (init := false) rfl (by decide +kernel) ck_129
theorem ok_130 : OKm 130 := ok_of (m := 130) (o := 6) (init := false) rfl (by decide +kernel) ck_130
theorem ok_131 : OKm 131 := ok_of (m := 131) (o := 6) (init := false) rfl (by decide +kernel) ck_131
theorem ok_132 : OKm 132 := ok_of (m := 132) (o := 7) (init := true) rfl (by decide +kernel) ck_132
theorem ok_133 : OKm 133 := ok_of (m := 133) (o := 7) (init := false) rfl (by decide +kernel) ck_133
theorem ok_134 : OKm 134 := ok_of (m := 134) (o := 7) (init := false) rfl (by decide +kernel) ck_134
theorem ok_135 : OKm 135 := ok_of (m := 135) (o := 7) (init := false) rfl (by decide +kernel) ck_135
theorem ok_136 : OKm 136 := ok_of (m := 136) (o := 7) (init := false) rfl (by decide +kernel) ck_136
theorem ok_137 : OKm 137 := ok_of (m := 137) (o := 7) (init := false) rfl (by decide +kernel) ck_137
theorem ok_138 : OKm 138 := ok_of (m := 138) (o := 7) (init := false) rfl (by decide +kernel) ck_138
theorem ok_139 : OKm 139 := ok_of (m := 139) (o := 7) (init := false) rfl (by decide +kernel) ck_139
theorem ok_140 : OKm 140 := ok_of (m := 140) (o := 7) (init := false) rfl (by decide +kernel) ck_140
theorem ok_141 : OKm 141 := ok_of (m := 141) (o := 7) (init := false) rfl (by decide +kernel) ck_141
theorem ok_142 : OKm 142 := ok_of (m := 142) (o := 7) (init := false) rfl (by decide +kernel) ck_142
theorem ok_143 : OKm 143 := ok_of (m := 143) (o := 8) (init := true) rfl (by decide +kernel) ck_143
theorem ok_144 : OKm 144 := ok_of (m := 144) (o := 8) (init := false) rfl (by decide +kernel) ck_144
theorem ok_145 : OKm 145 := ok_of (m := 145) (o := 8) (init := false) rfl (by decide +kernel) ck_145
theorem ok_146 : OKm 146 := ok_of (m := 146) (o := 8) (init := false) rfl (by decide +kernel) ck_146
theorem ok_147 : OKm 147 := ok_of (m := 147) (o := 8) (init := false) rfl (by decide +kernel) ck_147
theorem ok_148 : OKm 148 := ok_of (m := 148) (o := 8) (init := false) rfl (by decide +kernel) ck_148
theorem ok_149 : OKm 149 := ok_of (m := 149) (o := 8) (init := false) rfl (by decide +kernel) ck_149
theorem ok_150 : OKm 150 := ok_of (m := 150) (o := 8) (init := false) rfl (by decide +kernel) ck_150
theorem ok_151 : OKm 151 := ok_of (m := 151) (o := 9) (init := true) rfl (by decide +kernel) ck_151
theorem ok_152 : OKm 152 := ok_of (m := 152) (o := 9) (init := false) rfl (by decide +kernel) ck_152
theorem ok_153 : OKm 153 := ok_of (m := 153) (o := 9) (init := false) rfl (by decide +kernel) ck_153
theorem ok_154 : OKm 154 := ok_of (m := 154) (o := 9) (init := false) rfl (by decide +kernel) ck_154
theorem ok_155 : OKm 155 := ok_of (m := 155) (o := 9) (init := false) rfl (by decide +kernel) ck_155
theorem ok_156 : OKm 156 := ok_of (m := 156) (o := 9) (init := false) rfl (by decide +kernel) ck_156
theorem ok_157 : OKm 157 := ok_of (m := 157) (o := 9) (init := false) rfl (by decide +kernel) ck_157
theorem ok_158 : OKm 158 := ok_of (m := 158) (o := 9) (init := false) rfl (by decide +kernel) ck_158
theorem ok_159 : OKm 159 := ok_of (m := 159) (o := 9) (init := false) rfl (by decide +kernel) ck_159
theorem ok_160 : OKm 160 := ok_of (m := 160) (o := 9) (init := false) rfl (by decide +kernel) ck_160
theorem ok_161 : OKm 161 := ok_of (m := 161) (o := 9) (init := false) rfl (by decide +kernel) ck_161
theorem ok_162 : OKm 162 := ok_of (m := 162) (o := 9) (init := false) rfl (by decide +kernel) ck_162
theorem ok_163 : OKm 163 := ok_of (m := 163) (o := 9) (init := false) rfl (by decide +kernel) ck_163
theorem ok_164 : OKm 164 := ok_of (m := 164) (o := 9) (init := false) rfl (by decide +kernel) ck_164
theorem ok_165 : OKm 165 := ok_of (m := 165) (o := 9) (init := false) rfl (by decide +kernel) ck_165
theorem ok_166 : OKm 166 := ok_of (m := 166) (o := 9) (init := false) rfl (by decide +kernel) ck_166
theorem ok_167 : OKm 167 := ok_of (m := 167) (o := 10) (init := true) rfl (by decide +kernel) ck_167
theorem ok_168 : OKm 168 := ok_of (m := 168) (o := 10) (init := false) rfl (by decide +kernel) ck_168
theorem ok_169 : OKm 169 := ok_of (m := 169) (o := 10) (init := false) rfl (by decide +kernel) ck_169
theorem ok_170 : OKm 170 := ok_of (m := 170) (o := 10) (init := false) rfl (by decide +kernel) ck_170
theorem ok_171 : OKm 171 := ok_of (m := 171) (o := 10) (init := false) rfl (by decide +kernel) ck_171
theorem ok_172 : OKm 172 := ok_of (m := 172) (o := 10) (init := false) rfl (by decide +kernel) ck_172
theorem ok_173 : OKm 173 := ok_of (m := 173) (o := 10) (init := false) rfl (by decide +kernel) ck_173
theorem ok_174 : OKm 174 := ok_of (m := 174) (o := 10) (init := false) rfl (by decide +kernel) ck_174
theorem ok_175 : OKm 175 := ok_of (m := 175) (o := 10) (init := false) rfl (by decide +kernel) ck_175
theorem ok_176 : OKm 176 := ok_of (m := 176) (o := 10) (init := false) rfl (by decide +kernel) ck_176
theorem ok_177 : OKm 177 := ok_of (m := 177) (o := 10) (init := false) rfl (by decide +kernel) ck_177
theorem ok_178 : OKm 178 := ok_of (m := 178) (o := 10) (init := false) rfl (by decide +kernel) ck_178
theorem ok_179 : OKm 179 := ok_of (m := 179) (o := 11) (init := true) rfl (by decide +kernel) ck_179
theorem ok_180 : OKm 180 := ok_of (m := 180) (o := 11) (init := false) rfl (by decide +kernel) ck_180
theorem ok_181 : OKm 181 := ok_of (m := 181) (o := 11) (init := false) rfl (by decide +kernel) ck_181
theorem ok_182 : OKm 182 := ok_of (m := 182) (o := 11) (init := false) rfl (by decide +kernel) ck_182
theorem ok_183 : OKm 183 := ok_of (m := 183) (o := 11) (init := false) rfl (by decide +kernel) ck_183
theorem ok_184 : OKm 184 := ok_of (m := 184) (o := 11) (init := false) rfl (by decide +kernel) ck_184
theorem ok_185 : OKm 185 := ok_of (m := 185) (o := 11) (init := false) rfl (by decide +kernel) ck_185
theorem ok_186 : OKm 186 := ok_of (m := 186) (o := 11) (init := false) rfl (by decide +kernel) ck_186
theorem ok_187 : OKm 187 := ok_of (m := 187) (o := 11) (init := false) rfl (by decide +kernel) ck_187
theorem ok_188 : OKm 188 := ok_of (m := 188) (o := 11) (init := false) rfl (by decide +kernel) ck_188
theorem ok_189 : OKm 189 := ok_of (m := 189) (o := 11) (init := false) rfl (by decide +kernel) ck_189
theorem ok_190 : OKm 190 := ok_of (m := 190) (o := 12) (init := false) rfl (by decide +kernel) ck_190
theorem ok_191 : OKm 191 := ok_of (m := 191) (o := 12) (init := false) rfl (by decide +kernel) ck_191
theorem ok_192 : OKm 192 := ok_of (m := 192) (o := 12) (init := false) rfl (by decide +kernel) ck_192
theorem ok_193 : OKm 193 := ok_of (m := 193) (o := 12) (init := true) rfl (by decide +kernel) ck_193
theorem ok_194 : OKm 194 := ok_of (m := 194) (o := 12) (init := false) rfl (by decide +kernel) ck_194
theorem ok_195 : OKm 195 := ok_of (m := 195) (o := 12) (init := false) rfl (by decide +kernel) ck_195
theorem ok_196 : OKm 196 := ok_of (m := 196) (o := 12) (init := false) rfl (by decide +kernel) ck_196
theorem ok_197 : OKm 197 := ok_of (m := 197) (o := 12) (init := false) rfl (by decide +kernel) ck_197
theorem ok_198 : OKm 198 := ok_of (m := 198) (o := 12) (init := false) rfl (by decide +kernel) ck_198
theorem ok_199 : OKm 199 := ok_of (m := 199) (o := 12) (init := false) rfl (by decide +kernel) ck_199
theorem ok_200 : OKm 200 := ok_of (m := 200) (o := 12) (init := false) rfl (by decide +kernel) ck_200
theorem ok_201 : OKm 201 := ok_of (m := 201) (o := 12) (init := false) rfl (by decide +kernel) ck_201
theorem ok_202 : OKm 202 := ok_of (m := 202) (o := 12) (init := false) rfl (by decide +kernel) ck_202
theorem ok_203 : OKm 203 := ok_of (m := 203) (o := 12) (init := false) rfl (by decide +kernel) ck_203
theorem ok_204 : OKm 204 := ok_of (m := 204) (o := 12) (init := false) rfl (by decide +kernel) ck_204
theorem ok_205 : OKm 205 := ok_of (m := 205) (o := 12) (init := false) rfl (by decide +kernel) ck_205
theorem ok_206 : OKm 206 := ok_of (m := 206) (o := 12) (init := false) rfl (by decide +kernel) ck_206
theorem ok_207 : OKm 207 := ok_of (m := 207) (o := 12) (init := false) rfl (by decide +kernel) ck_207
theorem ok_208 : OKm 208 := ok_of (m := 208) (o := 12) (init := false) rfl (by decide +kernel) ck_208
theorem ok_209 : OKm 209 := ok_of (m := 209) (o := 12) (init := false) rfl (by decide +kernel) ck_209
theorem ok_210 : OKm 210 := ok_of (m := 210) (o := 12) (init := false) rfl (by decide +kernel) ck_210
theorem ok_211 : OKm 211 := ok_of (m := 211) (o := 12) (init := false) rfl (by decide +kernel) ck_211
theorem ok_212 : OKm 212 := ok_of (m := 212) (o := 12) (init := false) rfl (by decide +kernel) ck_212
theorem ok_213 : OKm 213 := ok_of (m := 213) (o := 12) (init := false) rfl (by decide +kernel) ck_213
theorem ok_214 : OKm 214 := ok_of (m := 214) (o := 12) (init := false) rfl (by decide +kernel) ck_214
theorem ok_215 : OKm 215 := ok_of (m := 215) (o := 12) (init := false) rfl (by decide +kernel) ck_215
theorem ok_216 : OKm 216 := ok_of (m := 216) (o := 12) (init := false) rfl (by decide +kernel) ck_216
theorem ok_217 : OKm 217 := ok_of (m := 217) (o := 12) (init := false) rfl (by decide +kernel) ck_217
theorem ok_218 : OKm 218 := ok_of (m := 218) (o := 12) (init := false) rfl (by decide +kernel) ck_218
theorem ok_219 : OKm 219 := ok_of (m := 219) (o := 12) (init := false) rfl (by decide +kernel) ck_219
theorem ok_220 : OKm 220 := ok_of (m := 220) (o := 12) (init := false) rfl (by decide +kernel) ck_220
theorem ok_221 : OKm 221 := ok_of (m := 221) (o := 12) (init := false) rfl (by decide +kernel) ck_221
theorem ok_222 : OKm 222 := ok_of (m := 222) (o := 12) (init := false) rfl (by decide +kernel) ck_222
theorem ok_223 : OKm 223 := ok_of (m := 223) (o := 12) (init := false) rfl (by decide +kernel) ck_223
theorem ok_224 : OKm 224 := ok_of (m := 224) (o := 12) (init := false) rfl (by decide +kernel) ck_224
theorem ok_225 : OKm 225 := ok_of (m := 225) (o := 12) (init := false) rfl (by decide +kernel) ck_225
theorem ok_226 : OKm 226 := ok_of (m := 226) (o := 12) (init := false) rfl (by decide +kernel) ck_226
theorem ok_227 : OKm 227 := ok_of (m := 227) (o := 12) (init := false) rfl (by decide +kernel) ck_227
theorem ok_228 : OKm 228 := ok_of (m := 228) (o := 12) (init := false) rfl (by decide +kernel) ck_228
theorem ok_229 : OKm 229 := ok_of (m := 229) (o := 12) (init := false) rfl (by decide +kernel) ck_229
theorem ok_230 : OKm 230 := ok_of (m := 230) (o := 12) (init := false) rfl (by decide +kernel) ck_230
theorem ok_231 : OKm 231 := ok_of (m := 231) (o := 12) (init := false) rfl (by decide +kernel) ck_231
theorem ok_232 : OKm 232 := ok_of (m := 232) (o := 12) (init := false) rfl (by decide +kernel) ck_232
theorem ok_233 : OKm 233 := ok_of (m := 233) (o := 12) (init := false) rfl (by decide +kernel) ck_233
theorem ok_234 : OKm 234 := ok_of (m := 234) (o := 12) (init := false) rfl (by decide +kernel) ck_234
theorem ok_235 : OKm 235 := ok_of (m := 235) (o := 12) (init := false) rfl (by decide +kernel) ck_235
theorem ok_236 : OKm 236 := ok_of (m := 236) (o := 12) (init := false) rfl (by decide +kernel) ck_236
theorem ok_237 : OKm 237 := ok_of (m := 237) (o := 12) (init := false) rfl (by decide +kernel) ck_237
theorem ok_238 : OKm 238 := ok_of (m := 238) (o := 12) (init := false) rfl (by decide +kernel) ck_238
theorem ok_239 : OKm 239 := ok_of (m := 239) (o := 12) (init := false) rfl (by decide +kernel) ck_239
theorem ok_240 : OKm 240 := ok_of (m := 240) (o := 12) (init := false) rfl (by decide +kernel) ck_240
theorem ok_241 : OKm 241 := ok_of (m := 241) (o := 12) (init := false) rfl (by decide +kernel) ck_241
theorem ok_242 : OKm 242 := ok_of (m := 242) (o := 12) (init := false) rfl (by decide +kernel) ck_242
theorem ok_243 : OKm 243 := ok_of (m := 243) (o := 12) (init := false) rfl (by decide +kernel) ck_243
theorem ok_244 : OKm 244 := ok_of (m := 244) (o := 12) (init := false) rfl (by decide +kernel) ck_244
theorem ok_245 : OKm 245 := ok_of (m := 245) (o := 12) (init := false) rfl (by decide +kernel) ck_245
theorem ok_246 : OKm 246 := ok_of (m := 246) (o := 12) (init := false) rfl (by decide +kernel) ck_246
theorem ok_247 : OKm 247 := ok_of (m := 247) (o := 12) (init := false) rfl (by decide +kernel) ck_247
theorem ok_248 : OKm 248 := ok_of (m := 248) (o := 12) (init := false) rfl (by decide +kernel) ck_248
theorem ok_249 : OKm 249 := ok_of (m := 249) (o := 12) (init := false) rfl (by decide +kernel) ck_249
theorem ok_250 : OKm 250 := ok_of (m := 250) (o := 12) (init := false) rfl (by decide +kernel) ck_250
theorem ok_251 : OKm 251 := ok_of (m := 251) (o := 12) (init := false) rfl (by decide +kernel) ck_251
theorem ok_252 : OKm 252 := ok_of (m := 252) (o := 12) (init := false) rfl (by decide +kernel) ck_252
theorem ok_253 : OKm 253 := ok_of (m := 253) (o := 12) (init := false) rfl (by decide +kernel) ck_253
theorem ok_254 : OKm 254 := ok_of (m := 254) (o := 12) (init := false) rfl (by decide +kernel) ck_254
theorem ok_255 : OKm 255 := ok_of (m := 255) (o := 12) (init := false) rfl (by decide +kernel) ck_255
theorem ok_256 : OKm 256 := ok_of (m := 256) (o := 12) (init := false) rfl (by decide +kernel) ck_256
theorem ok_257 : OKm 257 := ok_of (m := 257) (o := 12) (init := false) rfl (by decide +kernel) ck_257
theorem ok_258 : OKm 258 := ok_of (m := 258) (o := 12) (init := false) rfl (by decide +kernel) ck_258
theorem ok_259 : OKm 259 := ok_of (m := 259) (o := 12) (init := false) rfl (by decide +kernel) ck_259
theorem ok_260 : OKm 260 := ok_of (m := 260) (o := 12) (init := false) rfl (by decide +kernel) ck_260
theorem ok_261 : OKm 261 := ok_of (m := 261) (o := 12) (init := false) rfl (by decide +kernel) ck_261
theorem ok_262 : OKm 262 := ok_of (m := 262) (o := 12) (init := false) rfl (by decide +kernel) ck_262
theorem ok_263 : OKm 263 := ok_of (m := 263) (o := 12) (init := false) rfl (by decide +kernel) ck_263
theorem ok_264 : OKm 264 := ok_of (m := 264) (o := 12) (init := false) rfl (by decide +kernel) ck_264
theorem ok_265 : OKm 265 := ok_of (m := 265) (o := 12) (init := false) rfl (by decide +kernel) ck_265
theorem ok_266 : OKm 266 := ok_of (m := 266) (o := 12) (init := false) rfl (by decide +kernel) ck_266
theorem ok_267 : OKm 267 := ok_of (m := 267) (o := 12) (init := false) rfl (by decide +kernel) ck_267
theorem ok_268 : OKm 268 := ok_of (m := 268) (o := 12) (init := false) rfl (by decide +kernel) ck_268
theorem ok_269 : OKm 269 := ok_of (m := 269) (o := 12) (init := false) rfl (by decide +kernel) ck_269
theorem ok_270 : OKm 270 := ok_of (m := 270) (o := 12) (init := false) rfl (by decide +kernel) ck_270
theorem ok_271 : OKm 271 := ok_of (m := 271) (o := 12) (init := false) rfl (by decide +kernel) ck_271
theorem ok_272 : OKm 272 := ok_of (m := 272) (o := 12) (init := false) rfl (by decide +kernel) ck_272
theorem ok_273 : OKm 273 := ok_of (m := 273) (o := 12) (init := false) rfl (by decide +kernel) ck_273
theorem ok_274 : OKm 274 := ok_of (m := 274) (o := 12) (init := false) rfl (by decide +kernel) ck_274
theorem ok_275 : OKm 275 := ok_of (m := 275) (o := 12) (init := false) rfl (by decide +kernel) ck_275
theorem ok_276 : OKm 276 := ok_of (m := 276) (o := 12) (init := false) rfl (by decide +kernel) ck_276
theorem ok_277 : OKm 277 := ok_of (m := 277) (o := 12) (init := false) rfl (by decide +kernel) ck_277
theorem ok_278 : OKm 278 := ok_of (m := 278) (o := 12) (init := false) rfl (by decide +kernel) ck_278
theorem ok_279 : OKm 279 := ok_of (m := 279) (o := 12) (init := false) rfl (by decide +kernel) ck_279
theorem ok_280 : OKm 280 := ok_of (m := 280) (o := 12) (init := false) rfl (by decide +kernel) ck_280
theorem ok_281 : OKm 281 := ok_of (m := 281) (o := 12) (init := false) rfl (by decide +kernel) ck_281
theorem ok_282 : OKm 282 := ok_of (m := 282) (o := 12) (init := false) rfl (by decide +kernel) ck_282
theorem ok_283 : OKm 283 := ok_of (m := 283) (o := 12) (init := false) rfl (by decide +kernel) ck_283
theorem ok_284 : OKm 284 := ok_of (m := 284) (o := 12) (init := false) rfl (by decide +kernel) ck_284
theorem ok_285 : OKm 285 := ok_of (m := 285) (o := 12) (init := false) rfl (by decide +kernel) ck_285
theorem ok_286 : OKm 286 := ok_of (m := 286) (o := 12) (init := false) rfl (by decide +kernel) ck_286
theorem ok_287 : OKm 287 := ok_of (m := 287) (o := 12) (init := false) rfl (by decide +kernel) ck_287
set_option maxRecDepth 1000000 in
theorem ok_288 : ∀ pc ri, (P0.1 288).2.getD pc none = some ri → RIok sx0 (Y0 288).1.cls (decide ((Y0 288).1.name = "<init>")) (Y0 288).2.2 (Y0 288).2.1 pc ri ∧ CLok P0 Y0 (Y0 288).1.cls ri ∧ (∀ idx, ri.1 = .invokestatic idx → ri.2.1 = 9997 → (Y0 288).1.cls = "EchoTuneLaw" ∧ Cond.methodLink "EchoTuneLaw" idx yVoice ∈ WS) ∧ (∀ idx, ri.1 = .invokevirtual idx → ri.2.1 ≠ 9997) ∧ ∀ idx, ri.1 = .invokespecial idx → ri.2.1 ≠ 9997 := by
  intro pc ri hg
  have hg : cd_288.getD pc none = some ri := hg
  have hi : decide ((Y0 288).1.name = "<init>") = false := by decide +kernel
  have key : ∀ j, ckL code 13 false (some .boolean) ((cd_288.drop (40 * j)).take 40) (40 * j) = true → 40 * j ≤ pc → pc < 40 * j + 40 → RIok sx0 (cN 13) false (some .boolean) code pc ri ∧ CLok P0 Y0 (cN 13) ri ∧ (∀ idx, ri.1 = .invokestatic idx → ri.2.1 = 9997 → cN 13 = "EchoTuneLaw" ∧ Cond.methodLink "EchoTuneLaw" idx yVoice ∈ WS) ∧ (∀ idx, ri.1 = .invokevirtual idx → ri.2.1 ≠ 9997) ∧ ∀ idx, ri.1 = .invokespecial idx → ri.2.1 ≠ 9997 := by
    intro j hj h1 h2
    have hg2 : ((cd_288.drop (40 * j)).take 40).getD (pc - 40 * j) none = some ri := by
      rw [List.getD_eq_getElem?_getD, List.getElem?_take_of_lt (by omega), List.getElem?_drop, show 40 * j + (pc - 40 * j) = pc by omega, ← List.getD_eq_getElem?_getD]
      exact hg
    obtain ⟨g1, g2, g3⟩ := ckL_get _ _ hj _ _ hg2
    rw [show 40 * j + (pc - 40 * j) = pc by omega] at g1 g2
    exact ⟨⟨g1, lkB_ok g2⟩, clB_ok mf_all g3⟩
  rw [hi]
  have hlen : pc < 987 := by
    have := getD_lt2 hg
    rwa [show cd_288.length = 987 by decide +kernel] at this
  have hd : pc = 40 * (pc / 40) + pc % 40 := (Nat.div_add_mod pc 40).symm
  have hm : pc % 40 < 40 := Nat.mod_lt _ (by decide)
  generalize hq : pc / 40 = q at hd
  have hqN : q < 25 := by omega
  match q, hqN with
  | 0, _ => exact key 0 ck_288_0 (by omega) (by omega)
  | 1, _ => exact key 1 ck_288_1 (by omega) (by omega)
  | 2, _ => exact key 2 ck_288_2 (by omega) (by omega)
  | 3, _ => exact key 3 ck_288_3 (by omega) (by omega)
  | 4, _ => exact key 4 ck_288_4 (by omega) (by omega)
  | 5, _ => exact key 5 ck_288_5 (by omega) (by omega)
  | 6, _ => exact key 6 ck_288_6 (by omega) (by omega)
  | 7, _ => exact key 7 ck_288_7 (by omega) (by omega)
  | 8, _ => exact key 8 ck_288_8 (by omega) (by omega)
  | 9, _ => exact key 9 ck_288_9 (by omega) (by omega)
  | 10, _ => exact key 10 ck_288_10 (by omega) (by omega)
  | 11, _ => exact key 11 ck_288_11 (by omega) (by omega)
  | 12, _ => exact key 12 ck_288_12 (by omega) (by omega)
  | 13, _ => exact key 13 ck_288_13 (by omega) (by omega)
  | 14, _ => exact key 14 ck_288_14 (by omega) (by omega)
  | 15, _ => exact key 15 ck_288_15 (by omega) (by omega)
  | 16, _ => exact key 16 ck_288_16 (by omega) (by omega)
  | 17, _ => exact key 17 ck_288_17 (by omega) (by omega)
  | 18, _ => exact key 18 ck_288_18 (by omega) (by omega)
  | 19, _ => exact key 19 ck_288_19 (by omega) (by omega)
  | 20, _ => exact key 20 ck_288_20 (by omega) (by omega)
  | 21, _ => exact key 21 ck_288_21 (by omega) (by omega)
  | 22, _ => exact key 22 ck_288_22 (by omega) (by omega)
  | 23, _ => exact key 23 ck_288_23 (by omega) (by omega)
  | 24, _ => exact key 24 ck_288_24 (by omega) (by omega)
  | k + 25, h => omega
set_option maxRecDepth 1000000 in
theorem P0_out {m : Nat} (h : 289 ≤ m) : (P0.1 m).2 = [] := by
  show cdL.getD m [] = []
  rw [List.getD_eq_getElem?_getD, List.getElem?_eq_none (by rw [show cdL.length = 289 by decide +kernel]; exact h)]
  rfl
set_option maxRecDepth 1000000 in
theorem all_ok : ∀ m pc ri, (P0.1 m).2.getD pc none = some ri → RIok sx0 (Y0 m).1.cls (decide ((Y0 m).1.name = "<init>")) (Y0 m).2.2 (Y0 m).2.1 pc ri ∧ CLok P0 Y0 (Y0 m).1.cls ri ∧ (∀ idx, ri.1 = .invokestatic idx → ri.2.1 = 9997 → (Y0 m).1.cls = "EchoTuneLaw" ∧ Cond.methodLink "EchoTuneLaw" idx yVoice ∈ WS) ∧ (∀ idx, ri.1 = .invokevirtual idx → ri.2.1 ≠ 9997) ∧ ∀ idx, ri.1 = .invokespecial idx → ri.2.1 ≠ 9997 := by
  intro m
  match m with
  | 0 => exact ok_0
  | 1 => exact ok_1
  | 2 => exact ok_2
  | 3 => exact ok_3
  | 4 => exact ok_4
  | 5 => exact ok_5
  | 6 => exact ok_6
  | 7 => exact ok_7
  | 8 => exact ok_8
  | 9 => exact ok_9
  | 10 => exact ok_10
  | 11 => exact ok_11
  | 12 => exact ok_12
  | 13 => exact ok_13
  | 14 => exact ok_14
  | 15 => exact ok_15
  | 16 => exact ok_16
  | 17 => exact ok_17
  | 18 => exact ok_18
  | 19 => exact ok_19
  | 20 => exact ok_20
  | 21 => exact ok_21
  | 22 => exact ok_22
  | 23 => exact ok_23
  | 24 => exact ok_24
  | 25 => exact ok_25
  | 26 => exact ok_26
  | 27 => exact ok_27
  | 28 => exact ok_28
  | 29 => exact ok_29
  | 30 => exact ok_30
  | 31 => exact ok_31
  | 32 => exact ok_32
  | 33 => exact ok_33
  | 34 => exact ok_34
  | 35 => exact ok_35
  | 36 => exact ok_36
  | 37 => exact ok_37
  | 38 => exact ok_38
  | 39 => exact ok_39
  | 40 => exact ok_40
  | 41 => exact ok_41
  | 42 => exact ok_42
  | 43 => exact ok_43
  | 44 => exact ok_44
  | 45 => exact ok_45
  | 46 => exact ok_46
  | 47 => exact ok_47
  | 48 => exact ok_48
  | 49 => exact ok_49
  | 50 => exact ok_50
  | 51 => exact ok_51
  | 52 => exact ok_52
  | 53 => exact ok_53
  | 54 => exact ok_54
  | 55 => exact ok_55
  | 56 => exact ok_56
  | 57 => exact ok_57
  | 58 => exact ok_58
  | 59 => exact ok_59
  | 60 => exact ok_60
  | 61 => exact ok_61
  | 62 => exact ok_62
  | 63 => exact ok_63
  | 64 => exact ok_64
  | 65 => exact ok_65
  | 66 => exact ok_66
  | 67 => exact ok_67
  | 68 => exact ok_68
  | 69 => exact ok_69
  | 70 => exact ok_70
  | 71 => exact ok_71
  | 72 => exact ok_72
  | 73 => exact ok_73
  | 74 => exact ok_74
  | 75 => exact ok_75
  | 76 => exact ok_76
  | 77 => exact ok_77
  | 78 => exact ok_78
  | 79 => exact ok_79
  | 80 => exact ok_80
  | 81 => exact ok_81
  | 82 => exact ok_82
  | 83 => exact ok_83
  | 84 => exact ok_84
  | 85 => exact ok_85
  | 86 => exact ok_86
  | 87 => exact ok_87
  | 88 => exact ok_88
  | 89 => exact ok_89
  | 90 => exact ok_90
  | 91 => exact ok_91
  | 92 => exact ok_92
  | 93 => exact ok_93
  | 94 => exact ok_94
  | 95 => exact ok_95
  | 96 => exact ok_96
  | 97 => exact ok_97
  | 98 => exact ok_98
  | 99 => exact ok_99
  | 100 => exact ok_100
  | 101 => exact ok_101
  | 102 => exact ok_102
  | 103 => exact ok_103
  | 104 => exact ok_104
  | 105 => exact ok_105
  | 106 => exact ok_106
  | 107 => exact ok_107
  | 108 => exact ok_108
  | 109 => exact ok_109
  | 110 => exact ok_110
  | 111 => exact ok_111
  | 112 => exact ok_112
  | 113 => exact ok_113
  | 114 => exact ok_114
  | 115 => exact ok_115
  | 116 => exact ok_116
  | 117 => exact ok_117
  | 118 => exact ok_118
  | 119 => exact ok_119
  | 120 => exact ok_120
  | 121 => exact ok_121
  | 122 => exact ok_122
  | 123 => exact ok_123
  | 124 => exact ok_124
  | 125 => exact ok_125
  | 126 => exact ok_126
  | 127 => exact ok_127
  | 128 => exact ok_128
  | 129 => exact ok_129
  | 130 => exact ok_130
  | 131 => exact ok_131
  | 132 => exact ok_132
  | 133 => exact ok_133
  | 134 => exact ok_134
  | 135 => exact ok_135
  | 136 => exact ok_136
  | 137 => exact ok_137
  | 138 => exact ok_138
  | 139 => exact ok_139
  | 140 => exact ok_140
  | 141 => exact ok_141
  | 142 => exact ok_142
  | 143 => exact ok_143
  | 144 => exact ok_144
  | 145 => exact ok_145
  | 146 => exact ok_146
  | 147 => exact ok_147
  | 148 => exact ok_148
  | 149 => exact ok_149
  | 150 => exact ok_150
  | 151 => exact ok_151
  | 152 => exact ok_152
  | 153 => exact ok_153
  | 154 => exact ok_154
  | 155 => exact ok_155
  | 156 => exact ok_156
  | 157 => exact ok_157
  | 158 => exact ok_158
  | 159 => exact ok_159
  | 160 => exact ok_160
  | 161 => exact ok_161
  | 162 => exact ok_162
  | 163 => exact ok_163
  | 164 => exact ok_164
  | 165 => exact ok_165
  | 166 => exact ok_166
  | 167 => exact ok_167
  | 168 => exact ok_168
  | 169 => exact ok_169
  | 170 => exact ok_170
  | 171 => exact ok_171
  | 172 => exact ok_172
  | 173 => exact ok_173
  | 174 => exact ok_174
  | 175 => exact ok_175
  | 176 => exact ok_176
  | 177 => exact ok_177
  | 178 => exact ok_178
  | 179 => exact ok_179
  | 180 => exact ok_180
  | 181 => exact ok_181
  | 182 => exact ok_182
  | 183 => exact ok_183
  | 184 => exact ok_184
  | 185 => exact ok_185
  | 186 => exact ok_186
  | 187 => exact ok_187
  | 188 => exact ok_188
  | 189 => exact ok_189
  | 190 => exact ok_190
  | 191 => exact ok_191
  | 192 => exact ok_192
  | 193 => exact ok_193
  | 194 => exact ok_194
  | 195 => exact ok_195
  | 196 => exact ok_196
  | 197 => exact ok_197
  | 198 => exact ok_198
  | 199 => exact ok_199
  | 200 => exact ok_200
  | 201 => exact ok_201
  | 202 => exact ok_202
  | 203 => exact ok_203
  | 204 => exact ok_204
  | 205 => exact ok_205
  | 206 => exact ok_206
  | 207 => exact ok_207
  | 208 => exact ok_208
  | 209 => exact ok_209
  | 210 => exact ok_210
  | 211 => exact ok_211
  | 212 => exact ok_212
  | 213 => exact ok_213
  | 214 => exact ok_214
  | 215 => exact ok_215
  | 216 => exact ok_216
  | 217 => exact ok_217
  | 218 => exact ok_218
  | 219 => exact ok_219
  | 220 => exact ok_220
  | 221 => exact ok_221
  | 222 => exact ok_222
  | 223 => exact ok_223
  | 224 => exact ok_224
  | 225 => exact ok_225
  | 226 => exact ok_226
  | 227 => exact ok_227
  | 228 => exact ok_228
  | 229 => exact ok_229
  | 230 => exact ok_230
  | 231 => exact ok_231
  | 232 => exact ok_232
  | 233 => exact ok_233
  | 234 => exact ok_234
  | 235 => exact ok_235
  | 236 => exact ok_236
  | 237 => exact ok_237
  | 238 => exact ok_238
  | 239 => exact ok_239
  | 240 => exact ok_240
  | 241 => exact ok_241
  | 242 => exact ok_242
  | 243 => exact ok_243
  | 244 => exact ok_244
  | 245 => exact ok_245
  | 246 => exact ok_246
  | 247 => exact ok_247
  | 248 => exact ok_248
  | 249 => exact ok_249
  | 250 => exact ok_250
  | 251 => exact ok_251
  | 252 => exact ok_252
  | 253 => exact ok_253
  | 254 => exact ok_254
  | 255 => exact ok_255
  | 256 => exact ok_256
  | 257 => exact ok_257
  | 258 => exact ok_258
  | 259 => exact ok_259
  | 260 => exact ok_260
  | 261 => exact ok_261
  | 262 => exact ok_262
  | 263 => exact ok_263
  | 264 => exact ok_264
  | 265 => exact ok_265
  | 266 => exact ok_266
  | 267 => exact ok_267
  | 268 => exact ok_268
  | 269 => exact ok_269
  | 270 => exact ok_270
  | 271 => exact ok_271
  | 272 => exact ok_272
  | 273 => exact ok_273
  | 274 => exact ok_274
  | 275 => exact ok_275
  | 276 => exact ok_276
  | 277 => exact ok_277
  | 278 => exact ok_278
  | 279 => exact ok_279
  | 280 => exact ok_280
  | 281 => exact ok_281
  | 282 => exact ok_282
  | 283 => exact ok_283
  | 284 => exact ok_284
  | 285 => exact ok_285
  | 286 => exact ok_286
  | 287 => exact ok_287
  | 288 => exact ok_288
  | k + 289 =>
    intro pc ri h
    rw [P0_out (by omega)] at h
    simp at h
theorem run_ok {G : GE} {μ : AM} {l : Launch} (hV : VoxOK sx0 G P0 Y0 μ l) : ∀ n, RunS sx0 G P0 Y0 μ l n := run_all all_ok ⟨P0_out (by decide), P0_out (by decide)⟩ (by decide) hV
