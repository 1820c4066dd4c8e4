theorem y0 : lay[0]? = some (.inr (8, [some 1, some 14, some 27, some 28, some 29, some 30, some 61, some 66, some 68, some 70, none])) := rfl
theorem y1 : lay[1]? = some (.inr (4, [none, none, none, some 2, some 3, some 4, some 5, some 6, some 7, some 8, some 9, some 10, some 11, some 12, some 13])) := rfl
theorem y2 : lay[2]? = some (.inl (0, 4, 0)) := rfl
theorem y3 : lay[3]? = some (.inl (0, 4, 0)) := rfl
theorem y4 : lay[4]? = some (.inl (0, 20, 0)) := rfl
theorem y5 : lay[5]? = some (.inl (0, 20, 0)) := rfl
theorem y6 : lay[6]? = some (.inl (0, 20, 0)) := rfl
theorem y7 : lay[7]? = some (.inl (0, 20, 0)) := rfl
theorem y8 : lay[8]? = some (.inl (0, 20, 0)) := rfl
theorem y9 : lay[9]? = some (.inl (0, 20, 0)) := rfl
theorem y10 : lay[10]? = some (.inl (0, 8, 0)) := rfl
theorem y11 : lay[11]? = some (.inl (0, 8, 0)) := rfl
theorem y12 : lay[12]? = some (.inl (0, 8, 0)) := rfl
theorem y13 : lay[13]? = some (.inl (0, 8, 0)) := rfl
theorem y14 : lay[14]? = some (.inr (4, [none, none, none, some 15, some 16, some 17, some 18, some 19, some 20, some 21, some 22, some 23, some 24, some 25, some 26])) := rfl
theorem y15 : lay[15]? = some (.inl (0, 4, 0)) := rfl
theorem y16 : lay[16]? = some (.inl (0, 4, 0)) := rfl
theorem y17 : lay[17]? = some (.inl (0, 20, 0)) := rfl
theorem y18 : lay[18]? = some (.inl (0, 20, 0)) := rfl
theorem y19 : lay[19]? = some (.inl (0, 20, 0)) := rfl
theorem y20 : lay[20]? = some (.inl (0, 20, 0)) := rfl
theorem y21 : lay[21]? = some (.inl (0, 20, 0)) := rfl
theorem y22 : lay[22]? = some (.inl (0, 20, 0)) := rfl
theorem y23 : lay[23]? = some (.inl (0, 8, 0)) := rfl
theorem y24 : lay[24]? = some (.inl (0, 8, 0)) := rfl
theorem y25 : lay[25]? = some (.inl (0, 8, 0)) := rfl
theorem y26 : lay[26]? = some (.inl (0, 8, 0)) := rfl
theorem y27 : lay[27]? = some (.inl (3, 3, 31)) := rfl
theorem y28 : lay[28]? = some (.inl (3, 3, 34)) := rfl
theorem y29 : lay[29]? = some (.inl (4, 3, 37)) := rfl
theorem y30 : lay[30]? = some (.inl (5, 3, 40)) := rfl
theorem y31 : lay[31]? = some (.inr (0, [none, none, some 43])) := rfl
theorem y32 : lay[32]? = some (.inr (0, [none, none, some 44])) := rfl
theorem y33 : lay[33]? = some (.inr (0, [none, none, some 45])) := rfl
theorem y34 : lay[34]? = some (.inr (0, [none, none, some 46])) := rfl
theorem y35 : lay[35]? = some (.inr (0, [none, none, some 47])) := rfl
theorem y36 : lay[36]? = some (.inr (0, [none, none, some 48])) := rfl
theorem y37 : lay[37]? = some (.inr (6, [some 31, some 61, some 1, none, none, none, none, none, some 49, some 50, some 51])) := rfl
theorem y38 : lay[38]? = some (.inr (6, [some 32, some 61, some 1, none, none, none, none, none, some 52, some 53, some 54])) := rfl
theorem y39 : lay[39]? = some (.inr (6, [some 33, some 61, some 1, none, none, none, none, none, some 55, some 56, some 57])) := rfl
theorem y40 : lay[40]? = some (.inr (3, [none, some 58])) := rfl
theorem y41 : lay[41]? = some (.inr (3, [none, some 59])) := rfl
theorem y42 : lay[42]? = some (.inr (3, [none, some 60])) := rfl
theorem y43 : lay[43]? = some (.inl (0, 60, 0)) := rfl
theorem y44 : lay[44]? = some (.inl (0, 60, 0)) := rfl
theorem y45 : lay[45]? = some (.inl (0, 60, 0)) := rfl
theorem y46 : lay[46]? = some (.inl (0, 60, 0)) := rfl
theorem y47 : lay[47]? = some (.inl (0, 60, 0)) := rfl
theorem y48 : lay[48]? = some (.inl (0, 60, 0)) := rfl
theorem y49 : lay[49]? = some (.inl (0, 1296, 0)) := rfl
theorem y50 : lay[50]? = some (.inl (0, 24, 0)) := rfl
theorem y51 : lay[51]? = some (.inl (0, 60, 0)) := rfl
theorem y52 : lay[52]? = some (.inl (0, 1296, 0)) := rfl
theorem y53 : lay[53]? = some (.inl (0, 24, 0)) := rfl
theorem y54 : lay[54]? = some (.inl (0, 60, 0)) := rfl
theorem y55 : lay[55]? = some (.inl (0, 1296, 0)) := rfl
theorem y56 : lay[56]? = some (.inl (0, 24, 0)) := rfl
theorem y57 : lay[57]? = some (.inl (0, 60, 0)) := rfl
theorem y58 : lay[58]? = some (.inl (1, 20, 0)) := rfl
theorem y59 : lay[59]? = some (.inl (1, 20, 0)) := rfl
theorem y60 : lay[60]? = some (.inl (1, 20, 0)) := rfl
theorem y61 : lay[61]? = some (.inr (2, [some 1, none, none, some 62, some 63, none, some 64, some 65])) := rfl
theorem y62 : lay[62]? = some (.inl (0, 1296, 0)) := rfl
theorem y63 : lay[63]? = some (.inl (0, 1296, 0)) := rfl
theorem y64 : lay[64]? = some (.inl (1, 1296, 0)) := rfl
theorem y65 : lay[65]? = some (.inl (1, 1296, 0)) := rfl
theorem y66 : lay[66]? = some (.inr (7, [none, none, some 67])) := rfl
theorem y67 : lay[67]? = some (.inl (0, 60, 0)) := rfl
theorem y68 : lay[68]? = some (.inr (1, [some 66, some 1, none, some 69])) := rfl
theorem y69 : lay[69]? = some (.inl (0, 60, 0)) := rfl
theorem y70 : lay[70]? = some (.inr (5, [some 66, some 1, none, none, none, none])) := rfl
theorem y71 : lay[71]? = some (.inr (9, [none, some 72, some 73, some 74, some 75, some 76, some 77, some 78, none, some 79, none, some 80, some 81, some 82, some 83, some 84, some 85, none, some 86, some 87, some 88, none, none, some 89, some 90, some 91, some 92, some 93, some 94, some 95, none, some 96, none, some 97, some 98, some 99, some 100, some 101, some 102, none, none, some 103, some 104, some 105, some 106, some 107, some 108, none, some 109, none, some 110, some 111, some 112, none, some 113, none, some 114, some 115, some 116, none, some 117, some 118, some 119, some 120, none, none])) := rfl
theorem y72 : lay[72]? = some (.inl (0, 4, 0)) := rfl
theorem y73 : lay[73]? = some (.inl (0, 4, 0)) := rfl
theorem y74 : lay[74]? = some (.inl (0, 20, 0)) := rfl
theorem y75 : lay[75]? = some (.inl (0, 20, 0)) := rfl
theorem y76 : lay[76]? = some (.inl (0, 20, 0)) := rfl
theorem y77 : lay[77]? = some (.inl (0, 20, 0)) := rfl
theorem y78 : lay[78]? = some (.inl (0, 80, 0)) := rfl
theorem y79 : lay[79]? = some (.inl (0, 20, 0)) := rfl
theorem y80 : lay[80]? = some (.inl (0, 8, 0)) := rfl
theorem y81 : lay[81]? = some (.inl (0, 8, 0)) := rfl
theorem y82 : lay[82]? = some (.inl (0, 8, 0)) := rfl
theorem y83 : lay[83]? = some (.inl (0, 8, 0)) := rfl
theorem y84 : lay[84]? = some (.inl (0, 3, 0)) := rfl
theorem y85 : lay[85]? = some (.inl (0, 180, 0)) := rfl
theorem y86 : lay[86]? = some (.inl (0, 60, 0)) := rfl
theorem y87 : lay[87]? = some (.inl (0, 3, 0)) := rfl
theorem y88 : lay[88]? = some (.inl (1, 60, 0)) := rfl
theorem y89 : lay[89]? = some (.inl (0, 4, 0)) := rfl
theorem y90 : lay[90]? = some (.inl (0, 4, 0)) := rfl
theorem y91 : lay[91]? = some (.inl (0, 20, 0)) := rfl
theorem y92 : lay[92]? = some (.inl (0, 20, 0)) := rfl
theorem y93 : lay[93]? = some (.inl (0, 20, 0)) := rfl
theorem y94 : lay[94]? = some (.inl (0, 20, 0)) := rfl
theorem y95 : lay[95]? = some (.inl (0, 80, 0)) := rfl
theorem y96 : lay[96]? = some (.inl (0, 20, 0)) := rfl
theorem y97 : lay[97]? = some (.inl (0, 8, 0)) := rfl
theorem y98 : lay[98]? = some (.inl (0, 8, 0)) := rfl
theorem y99 : lay[99]? = some (.inl (0, 8, 0)) := rfl
theorem y100 : lay[100]? = some (.inl (0, 8, 0)) := rfl
theorem y101 : lay[101]? = some (.inl (0, 3, 0)) := rfl
theorem y102 : lay[102]? = some (.inl (0, 180, 0)) := rfl
theorem y103 : lay[103]? = some (.inl (0, 1296, 0)) := rfl
theorem y104 : lay[104]? = some (.inl (0, 5184, 0)) := rfl
theorem y105 : lay[105]? = some (.inl (0, 6000, 0)) := rfl
theorem y106 : lay[106]? = some (.inl (0, 4, 0)) := rfl
theorem y107 : lay[107]? = some (.inl (1, 1296, 0)) := rfl
theorem y108 : lay[108]? = some (.inl (1, 1296, 0)) := rfl
theorem y109 : lay[109]? = some (.inl (0, 8, 0)) := rfl
theorem y110 : lay[110]? = some (.inl (2, 7, 0)) := rfl
theorem y111 : lay[111]? = some (.inl (2, 7, 0)) := rfl
theorem y112 : lay[112]? = some (.inl (2, 7, 0)) := rfl
theorem y113 : lay[113]? = some (.inl (2, 1296, 0)) := rfl
theorem y114 : lay[114]? = some (.inl (2, 1296, 0)) := rfl
theorem y115 : lay[115]? = some (.inl (0, 80, 0)) := rfl
theorem y116 : lay[116]? = some (.inl (0, 4, 0)) := rfl
theorem y117 : lay[117]? = some (.inl (0, 12, 0)) := rfl
theorem y118 : lay[118]? = some (.inl (0, 12, 0)) := rfl
theorem y119 : lay[119]? = some (.inl (0, 12, 0)) := rfl
theorem y120 : lay[120]? = some (.inl (0, 12, 0)) := rfl
theorem fw_X5_9 : Fw RX5 9 4 0 := ⟨RX5, TX5, 15, tyX5, rfl, by decide, mw 90 (by decide +kernel) rfl, inX5, tyX5_ok, nmX5⟩
theorem fw_X9_83 : Fw RX9 83 4 0 := ⟨RX5, TX5, 15, tyX5, rfl, by decide, mw 91 (by decide +kernel) rfl, inX5, tyX5_ok, nmX5⟩
theorem fw_X2_61 : Fw RX2 61 4 0 := ⟨RX5, TX5, 15, tyX5, rfl, by decide, mw 92 (by decide +kernel) rfl, inX5, tyX5_ok, nmX5⟩
theorem fw_X6_48 : Fw RX6 48 4 0 := ⟨RX5, TX5, 15, tyX5, rfl, by decide, mw 93 (by decide +kernel) rfl, inX5, tyX5_ok, nmX5⟩
theorem fw_X7_80 : Fw RX7 80 4 0 := ⟨RX5, TX5, 15, tyX5, rfl, by decide, mw 94 (by decide +kernel) rfl, inX5, tyX5_ok, nmX5⟩
theorem fw_X1_77 : Fw RX1 77 4 0 := ⟨RX5, TX5, 15, tyX5, rfl, by decide, mw 95 (by decide +kernel) rfl, inX5, tyX5_ok, nmX5⟩
theorem fw_X5_15 : Fw RX5 15 4 1 := ⟨RX5, TX5, 15, tyX5, rfl, by decide, mw 96 (by decide +kernel) rfl, inX5, tyX5_ok, nmX5⟩
theorem fw_X9_138 : Fw RX9 138 4 1 := ⟨RX5, TX5, 15, tyX5, rfl, by decide, mw 97 (by decide +kernel) rfl, inX5, tyX5_ok, nmX5⟩
theorem fw_X7_134 : Fw RX7 134 4 1 := ⟨RX5, TX5, 15, tyX5, rfl, by decide, mw 98 (by decide +kernel) rfl, inX5, tyX5_ok, nmX5⟩
theorem fw_X5_18 : Fw RX5 18 4 2 := ⟨RX5, TX5, 15, tyX5, rfl, by decide, mw 99 (by decide +kernel) rfl, inX5, tyX5_ok, nmX5⟩
theorem fw_X9_121 : Fw RX9 121 4 2 := ⟨RX5, TX5, 15, tyX5, rfl, by decide, mw 100 (by decide +kernel) rfl, inX5, tyX5_ok, nmX5⟩
theorem fw_X5_21 : Fw RX5 21 4 3 := ⟨RX5, TX5, 15, tyX5, rfl, by decide, mw 101 (by decide +kernel) rfl, inX5, tyX5_ok, nmX5⟩
theorem fw_X9_104 : Fw RX9 104 4 3 := ⟨RX5, TX5, 15, tyX5, rfl, by decide, mw 102 (by decide +kernel) rfl, inX5, tyX5_ok, nmX5⟩
theorem fw_X5_25 : Fw RX5 25 4 4 := ⟨RX5, TX5, 15, tyX5, rfl, by decide, mw 103 (by decide +kernel) rfl, inX5, tyX5_ok, nmX5⟩
theorem fw_X2_71 : Fw RX2 71 4 4 := ⟨RX5, TX5, 15, tyX5, rfl, by decide, mw 104 (by decide +kernel) rfl, inX5, tyX5_ok, nmX5⟩
theorem fw_X9_118 : Fw RX9 118 4 4 := ⟨RX5, TX5, 15, tyX5, rfl, by decide, mw 105 (by decide +kernel) rfl, inX5, tyX5_ok, nmX5⟩
theorem fw_X5_28 : Fw RX5 28 4 5 := ⟨RX5, TX5, 15, tyX5, rfl, by decide, mw 106 (by decide +kernel) rfl, inX5, tyX5_ok, nmX5⟩
theorem fw_X5_31 : Fw RX5 31 4 6 := ⟨RX5, TX5, 15, tyX5, rfl, by decide, mw 107 (by decide +kernel) rfl, inX5, tyX5_ok, nmX5⟩
theorem fw_X9_152 : Fw RX9 152 4 6 := ⟨RX5, TX5, 15, tyX5, rfl, by decide, mw 108 (by decide +kernel) rfl, inX5, tyX5_ok, nmX5⟩
theorem fw_X5_34 : Fw RX5 34 4 7 := ⟨RX5, TX5, 15, tyX5, rfl, by decide, mw 109 (by decide +kernel) rfl, inX5, tyX5_ok, nmX5⟩
theorem fw_X9_155 : Fw RX9 155 4 7 := ⟨RX5, TX5, 15, tyX5, rfl, by decide, mw 110 (by decide +kernel) rfl, inX5, tyX5_ok, nmX5⟩
theorem fw_X5_37 : Fw RX5 37 4 8 := ⟨RX5, TX5, 15, tyX5, rfl, by decide, mw 111 (by decide +kernel) rfl, inX5, tyX5_ok, nmX5⟩
theorem fw_X9_158 : Fw RX9 158 4 8 := ⟨RX5, TX5, 15, tyX5, rfl, by decide, mw 112 (by decide +kernel) rfl, inX5, tyX5_ok, nmX5⟩
theorem fw_X5_40 : Fw RX5 40 4 9 := ⟨RX5, TX5, 15, tyX5, rfl, by decide, mw 113 (by decide +kernel) rfl, inX5, tyX5_ok, nmX5⟩
theorem fw_X9_161 : Fw RX9 161 4 9 := ⟨RX5, TX5, 15, tyX5, rfl, by decide, mw 114 (by decide +kernel) rfl, inX5, tyX5_ok, nmX5⟩
theorem fw_X5_43 : Fw RX5 43 4 10 := ⟨RX5, TX5, 15, tyX5, rfl, by decide, mw 115 (by decide +kernel) rfl, inX5, tyX5_ok, nmX5⟩
theorem fw_X5_46 : Fw RX5 46 4 11 := ⟨RX5, TX5, 15, tyX5, rfl, by decide, mw 116 (by decide +kernel) rfl, inX5, tyX5_ok, nmX5⟩
theorem fw_X9_175 : Fw RX9 175 4 11 := ⟨RX5, TX5, 15, tyX5, rfl, by decide, mw 117 (by decide +kernel) rfl, inX5, tyX5_ok, nmX5⟩
theorem fw_X5_49 : Fw RX5 49 4 12 := ⟨RX5, TX5, 15, tyX5, rfl, by decide, mw 118 (by decide +kernel) rfl, inX5, tyX5_ok, nmX5⟩
theorem fw_X9_178 : Fw RX9 178 4 12 := ⟨RX5, TX5, 15, tyX5, rfl, by decide, mw 119 (by decide +kernel) rfl, inX5, tyX5_ok, nmX5⟩
theorem fw_X5_52 : Fw RX5 52 4 13 := ⟨RX5, TX5, 15, tyX5, rfl, by decide, mw 120 (by decide +kernel) rfl, inX5, tyX5_ok, nmX5⟩
theorem fw_X9_181 : Fw RX9 181 4 13 := ⟨RX5, TX5, 15, tyX5, rfl, by decide, mw 121 (by decide +kernel) rfl, inX5, tyX5_ok, nmX5⟩
theorem fw_X5_55 : Fw RX5 55 4 14 := ⟨RX5, TX5, 15, tyX5, rfl, by decide, mw 122 (by decide +kernel) rfl, inX5, tyX5_ok, nmX5⟩
theorem fw_X9_184 : Fw RX9 184 4 14 := ⟨RX5, TX5, 15, tyX5, rfl, by decide, mw 123 (by decide +kernel) rfl, inX5, tyX5_ok, nmX5⟩
theorem fw_X8_9 : Fw RX8 9 7 0 := ⟨RX8, TX8, 3, tyX8, rfl, by decide, mw 168 (by decide +kernel) rfl, inX8, tyX8_ok, nmX8⟩
theorem fw_X9_291 : Fw RX9 291 7 0 := ⟨RX8, TX8, 3, tyX8, rfl, by decide, mw 169 (by decide +kernel) rfl, inX8, tyX8_ok, nmX8⟩
theorem fw_X8_15 : Fw RX8 15 7 1 := ⟨RX8, TX8, 3, tyX8, rfl, by decide, mw 170 (by decide +kernel) rfl, inX8, tyX8_ok, nmX8⟩
theorem fw_X1_27 : Fw RX1 27 7 1 := ⟨RX8, TX8, 3, tyX8, rfl, by decide, mw 171 (by decide +kernel) rfl, inX8, tyX8_ok, nmX8⟩
theorem fw_X6_32 : Fw RX6 32 7 1 := ⟨RX8, TX8, 3, tyX8, rfl, by decide, mw 172 (by decide +kernel) rfl, inX8, tyX8_ok, nmX8⟩
theorem fw_X9_246 : Fw RX9 246 7 1 := ⟨RX8, TX8, 3, tyX8, rfl, by decide, mw 173 (by decide +kernel) rfl, inX8, tyX8_ok, nmX8⟩
theorem fw_X8_18 : Fw RX8 18 7 2 := ⟨RX8, TX8, 3, tyX8, rfl, by decide, mw 174 (by decide +kernel) rfl, inX8, tyX8_ok, nmX8⟩
theorem fw_X2_36 : Fw RX2 36 2 0 := ⟨RX2, TX2, 8, tyX2, rfl, by decide, mw 188 (by decide +kernel) rfl, inX2, tyX2_ok, nmX2⟩
theorem fw_X2_9 : Fw RX2 9 2 1 := ⟨RX2, TX2, 8, tyX2, rfl, by decide, mw 189 (by decide +kernel) rfl, inX2, tyX2_ok, nmX2⟩
theorem fw_X9_340 : Fw RX9 340 2 1 := ⟨RX2, TX2, 8, tyX2, rfl, by decide, mw 190 (by decide +kernel) rfl, inX2, tyX2_ok, nmX2⟩
theorem fw_X2_15 : Fw RX2 15 2 2 := ⟨RX2, TX2, 8, tyX2, rfl, by decide, mw 191 (by decide +kernel) rfl, inX2, tyX2_ok, nmX2⟩
theorem fw_X7_62 : Fw RX7 62 2 2 := ⟨RX2, TX2, 8, tyX2, rfl, by decide, mw 192 (by decide +kernel) rfl, inX2, tyX2_ok, nmX2⟩
theorem fw_X9_191 : Fw RX9 191 2 2 := ⟨RX2, TX2, 8, tyX2, rfl, by decide, mw 193 (by decide +kernel) rfl, inX2, tyX2_ok, nmX2⟩
theorem fw_X2_19 : Fw RX2 19 2 3 := ⟨RX2, TX2, 8, tyX2, rfl, by decide, mw 194 (by decide +kernel) rfl, inX2, tyX2_ok, nmX2⟩
theorem fw_X7_67 : Fw RX7 67 2 3 := ⟨RX2, TX2, 8, tyX2, rfl, by decide, mw 195 (by decide +kernel) rfl, inX2, tyX2_ok, nmX2⟩
theorem fw_X9_197 : Fw RX9 197 2 3 := ⟨RX2, TX2, 8, tyX2, rfl, by decide, mw 196 (by decide +kernel) rfl, inX2, tyX2_ok, nmX2⟩
theorem fw_X2_23 : Fw RX2 23 2 4 := ⟨RX2, TX2, 8, tyX2, rfl, by decide, mw 197 (by decide +kernel) rfl, inX2, tyX2_ok, nmX2⟩
theorem fw_X2_26 : Fw RX2 26 2 5 := ⟨RX2, TX2, 8, tyX2, rfl, by decide, mw 198 (by decide +kernel) rfl, inX2, tyX2_ok, nmX2⟩
theorem fw_X2_29 : Fw RX2 29 2 6 := ⟨RX2, TX2, 8, tyX2, rfl, by decide, mw 199 (by decide +kernel) rfl, inX2, tyX2_ok, nmX2⟩
theorem fw_X2_33 : Fw RX2 33 2 7 := ⟨RX2, TX2, 8, tyX2, rfl, by decide, mw 200 (by decide +kernel) rfl, inX2, tyX2_ok, nmX2⟩
theorem fw_X1_19 : Fw RX1 19 1 0 := ⟨RX1, TX1, 4, tyX1, rfl, by decide, mw 225 (by decide +kernel) rfl, inX1, tyX1_ok, nmX1⟩
theorem fw_X1_23 : Fw RX1 23 1 1 := ⟨RX1, TX1, 4, tyX1, rfl, by decide, mw 226 (by decide +kernel) rfl, inX1, tyX1_ok, nmX1⟩
theorem fw_X1_9 : Fw RX1 9 1 2 := ⟨RX1, TX1, 4, tyX1, rfl, by decide, mw 227 (by decide +kernel) rfl, inX1, tyX1_ok, nmX1⟩
theorem fw_X1_15 : Fw RX1 15 1 3 := ⟨RX1, TX1, 4, tyX1, rfl, by decide, mw 228 (by decide +kernel) rfl, inX1, tyX1_ok, nmX1⟩
theorem fw_X6_24 : Fw RX6 24 5 0 := ⟨RX6, TX6, 6, tyX6, rfl, by decide, mw 244 (by decide +kernel) rfl, inX6, tyX6_ok, nmX6⟩
theorem fw_X6_28 : Fw RX6 28 5 1 := ⟨RX6, TX6, 6, tyX6, rfl, by decide, mw 245 (by decide +kernel) rfl, inX6, tyX6_ok, nmX6⟩
theorem fw_X6_9 : Fw RX6 9 5 2 := ⟨RX6, TX6, 6, tyX6, rfl, by decide, mw 246 (by decide +kernel) rfl, inX6, tyX6_ok, nmX6⟩
theorem fw_X9_354 : Fw RX9 354 5 2 := ⟨RX6, TX6, 6, tyX6, rfl, by decide, mw 247 (by decide +kernel) rfl, inX6, tyX6_ok, nmX6⟩
theorem fw_X6_15 : Fw RX6 15 5 3 := ⟨RX6, TX6, 6, tyX6, rfl, by decide, mw 248 (by decide +kernel) rfl, inX6, tyX6_ok, nmX6⟩
theorem fw_X9_357 : Fw RX9 357 5 3 := ⟨RX6, TX6, 6, tyX6, rfl, by decide, mw 249 (by decide +kernel) rfl, inX6, tyX6_ok, nmX6⟩
theorem fw_X6_18 : Fw RX6 18 5 4 := ⟨RX6, TX6, 6, tyX6, rfl, by decide, mw 250 (by decide +kernel) rfl, inX6, tyX6_ok, nmX6⟩
theorem fw_X9_369 : Fw RX9 369 5 4 := ⟨RX6, TX6, 6, tyX6, rfl, by decide, mw 251 (by decide +kernel) rfl, inX6, tyX6_ok, nmX6⟩
theorem fw_X6_21 : Fw RX6 21 5 5 := ⟨RX6, TX6, 6, tyX6, rfl, by decide, mw 252 (by decide +kernel) rfl, inX6, tyX6_ok, nmX6⟩
theorem fw_X9_360 : Fw RX9 360 5 5 := ⟨RX6, TX6, 6, tyX6, rfl, by decide, mw 253 (by decide +kernel) rfl, inX6, tyX6_ok, nmX6⟩
theorem fw_X0_9 : Fw RX0 9 0 0 := ⟨RX0, TX0, 3, tyX0, rfl, by decide, mw 272 (by decide +kernel) rfl, inX0, tyX0_ok, nmX0⟩
theorem fw_X9_91 : Fw RX9 91 0 0 := ⟨RX0, TX0, 3, tyX0, rfl, by decide, mw 273 (by decide +kernel) rfl, inX0, tyX0_ok, nmX0⟩
theorem fw_X1_32 : Fw RX1 32 0 0 := ⟨RX0, TX0, 3, tyX0, rfl, by decide, mw 274 (by decide +kernel) rfl, inX0, tyX0_ok, nmX0⟩
theorem fw_X0_15 : Fw RX0 15 0 1 := ⟨RX0, TX0, 3, tyX0, rfl, by decide, mw 275 (by decide +kernel) rfl, inX0, tyX0_ok, nmX0⟩
theorem fw_X1_38 : Fw RX1 38 0 1 := ⟨RX0, TX0, 3, tyX0, rfl, by decide, mw 276 (by decide +kernel) rfl, inX0, tyX0_ok, nmX0⟩
theorem fw_X0_19 : Fw RX0 19 0 2 := ⟨RX0, TX0, 3, tyX0, rfl, by decide, mw 277 (by decide +kernel) rfl, inX0, tyX0_ok, nmX0⟩
theorem fw_X1_39 : Fw RX1 39 0 2 := ⟨RX0, TX0, 3, tyX0, rfl, by decide, mw 278 (by decide +kernel) rfl, inX0, tyX0_ok, nmX0⟩
theorem fw_X7_38 : Fw RX7 38 6 0 := ⟨RX7, TX7, 11, tyX7, rfl, by decide, mw 291 (by decide +kernel) rfl, inX7, tyX7_ok, nmX7⟩
theorem fw_X7_42 : Fw RX7 42 6 1 := ⟨RX7, TX7, 11, tyX7, rfl, by decide, mw 292 (by decide +kernel) rfl, inX7, tyX7_ok, nmX7⟩
theorem fw_X7_46 : Fw RX7 46 6 2 := ⟨RX7, TX7, 11, tyX7, rfl, by decide, mw 293 (by decide +kernel) rfl, inX7, tyX7_ok, nmX7⟩
theorem fw_X7_9 : Fw RX7 9 6 3 := ⟨RX7, TX7, 11, tyX7, rfl, by decide, mw 294 (by decide +kernel) rfl, inX7, tyX7_ok, nmX7⟩
theorem fw_X9_256 : Fw RX9 256 6 3 := ⟨RX7, TX7, 11, tyX7, rfl, by decide, mw 295 (by decide +kernel) rfl, inX7, tyX7_ok, nmX7⟩
theorem fw_X7_15 : Fw RX7 15 6 4 := ⟨RX7, TX7, 11, tyX7, rfl, by decide, mw 296 (by decide +kernel) rfl, inX7, tyX7_ok, nmX7⟩
theorem fw_X7_18 : Fw RX7 18 6 5 := ⟨RX7, TX7, 11, tyX7, rfl, by decide, mw 297 (by decide +kernel) rfl, inX7, tyX7_ok, nmX7⟩
theorem fw_X7_21 : Fw RX7 21 6 6 := ⟨RX7, TX7, 11, tyX7, rfl, by decide, mw 298 (by decide +kernel) rfl, inX7, tyX7_ok, nmX7⟩
theorem fw_X7_25 : Fw RX7 25 6 7 := ⟨RX7, TX7, 11, tyX7, rfl, by decide, mw 299 (by decide +kernel) rfl, inX7, tyX7_ok, nmX7⟩
theorem fw_X7_28 : Fw RX7 28 6 8 := ⟨RX7, TX7, 11, tyX7, rfl, by decide, mw 300 (by decide +kernel) rfl, inX7, tyX7_ok, nmX7⟩
theorem fw_X7_32 : Fw RX7 32 6 9 := ⟨RX7, TX7, 11, tyX7, rfl, by decide, mw 301 (by decide +kernel) rfl, inX7, tyX7_ok, nmX7⟩
theorem fw_X7_35 : Fw RX7 35 6 10 := ⟨RX7, TX7, 11, tyX7, rfl, by decide, mw 302 (by decide +kernel) rfl, inX7, tyX7_ok, nmX7⟩
theorem fw_X3_11 : Fw RX3 11 3 0 := ⟨RX3, TX3, 2, tyX3, rfl, by decide, mw 331 (by decide +kernel) rfl, inX3, tyX3_ok, nmX3⟩
theorem fw_X7_150 : Fw RX7 150 3 0 := ⟨RX3, TX3, 2, tyX3, rfl, by decide, mw 332 (by decide +kernel) rfl, inX3, tyX3_ok, nmX3⟩
theorem fw_X3_15 : Fw RX3 15 3 1 := ⟨RX3, TX3, 2, tyX3, rfl, by decide, mw 333 (by decide +kernel) rfl, inX3, tyX3_ok, nmX3⟩
theorem fw_X7_151 : Fw RX7 151 3 1 := ⟨RX3, TX3, 2, tyX3, rfl, by decide, mw 334 (by decide +kernel) rfl, inX3, tyX3_ok, nmX3⟩
theorem fw_X9_315 : Fw RX9 315 3 1 := ⟨RX3, TX3, 2, tyX3, rfl, by decide, mw 335 (by decide +kernel) rfl, inX3, tyX3_ok, nmX3⟩
theorem fw_X9_12 : Fw RX9 12 8 0 := ⟨RX9, TX9, 11, tyX9, rfl, by decide, mw 341 (by decide +kernel) rfl, inX9, tyX9_ok, nmX9⟩
theorem fw_X9_18 : Fw RX9 18 8 1 := ⟨RX9, TX9, 11, tyX9, rfl, by decide, mw 342 (by decide +kernel) rfl, inX9, tyX9_ok, nmX9⟩
theorem fw_X9_23 : Fw RX9 23 8 2 := ⟨RX9, TX9, 11, tyX9, rfl, by decide, mw 343 (by decide +kernel) rfl, inX9, tyX9_ok, nmX9⟩
theorem fw_X9_27 : Fw RX9 27 8 3 := ⟨RX9, TX9, 11, tyX9, rfl, by decide, mw 344 (by decide +kernel) rfl, inX9, tyX9_ok, nmX9⟩
theorem fw_X9_32 : Fw RX9 32 8 4 := ⟨RX9, TX9, 11, tyX9, rfl, by decide, mw 345 (by decide +kernel) rfl, inX9, tyX9_ok, nmX9⟩
theorem fw_X9_38 : Fw RX9 38 8 5 := ⟨RX9, TX9, 11, tyX9, rfl, by decide, mw 346 (by decide +kernel) rfl, inX9, tyX9_ok, nmX9⟩
theorem fw_X9_58 : Fw RX9 58 8 6 := ⟨RX9, TX9, 11, tyX9, rfl, by decide, mw 347 (by decide +kernel) rfl, inX9, tyX9_ok, nmX9⟩
theorem fw_X9_45 : Fw RX9 45 8 7 := ⟨RX9, TX9, 11, tyX9, rfl, by decide, mw 348 (by decide +kernel) rfl, inX9, tyX9_ok, nmX9⟩
theorem fw_X9_67 : Fw RX9 67 8 8 := ⟨RX9, TX9, 11, tyX9, rfl, by decide, mw 349 (by decide +kernel) rfl, inX9, tyX9_ok, nmX9⟩
theorem fw_X9_74 : Fw RX9 74 8 9 := ⟨RX9, TX9, 11, tyX9, rfl, by decide, mw 350 (by decide +kernel) rfl, inX9, tyX9_ok, nmX9⟩
theorem fw_X9_49 : Fw RX9 49 8 10 := ⟨RX9, TX9, 11, tyX9, rfl, by decide, mw 351 (by decide +kernel) rfl, inX9, tyX9_ok, nmX9⟩
theorem fw_X10_9 : Fw RX10 9 9 0 := ⟨RX10, TX10, 66, tyX10, rfl, by decide, mw 978 (by decide +kernel) rfl, inX10, tyX10_ok, nmX10⟩
theorem fw_X10_15 : Fw RX10 15 9 1 := ⟨RX10, TX10, 66, tyX10, rfl, by decide, mw 979 (by decide +kernel) rfl, inX10, tyX10_ok, nmX10⟩
theorem fw_X10_19 : Fw RX10 19 9 2 := ⟨RX10, TX10, 66, tyX10, rfl, by decide, mw 980 (by decide +kernel) rfl, inX10, tyX10_ok, nmX10⟩
theorem fw_X10_22 : Fw RX10 22 9 3 := ⟨RX10, TX10, 66, tyX10, rfl, by decide, mw 981 (by decide +kernel) rfl, inX10, tyX10_ok, nmX10⟩
theorem fw_X10_25 : Fw RX10 25 9 4 := ⟨RX10, TX10, 66, tyX10, rfl, by decide, mw 982 (by decide +kernel) rfl, inX10, tyX10_ok, nmX10⟩
theorem fw_X10_28 : Fw RX10 28 9 5 := ⟨RX10, TX10, 66, tyX10, rfl, by decide, mw 983 (by decide +kernel) rfl, inX10, tyX10_ok, nmX10⟩
theorem fw_X10_31 : Fw RX10 31 9 6 := ⟨RX10, TX10, 66, tyX10, rfl, by decide, mw 984 (by decide +kernel) rfl, inX10, tyX10_ok, nmX10⟩
theorem fw_X10_34 : Fw RX10 34 9 7 := ⟨RX10, TX10, 66, tyX10, rfl, by decide, mw 985 (by decide +kernel) rfl, inX10, tyX10_ok, nmX10⟩
theorem fw_X10_175 : Fw RX10 175 9 8 := ⟨RX10, TX10, 66, tyX10, rfl, by decide, mw 986 (by decide +kernel) rfl, inX10, tyX10_ok, nmX10⟩
theorem fw_X10_37 : Fw RX10 37 9 9 := ⟨RX10, TX10, 66, tyX10, rfl, by decide, mw 987 (by decide +kernel) rfl, inX10, tyX10_ok, nmX10⟩
theorem fw_X10_178 : Fw RX10 178 9 10 := ⟨RX10, TX10, 66, tyX10, rfl, by decide, mw 988 (by decide +kernel) rfl, inX10, tyX10_ok, nmX10⟩
theorem fw_X10_40 : Fw RX10 40 9 11 := ⟨RX10, TX10, 66, tyX10, rfl, by decide, mw 989 (by decide +kernel) rfl, inX10, tyX10_ok, nmX10⟩
theorem fw_X10_43 : Fw RX10 43 9 12 := ⟨RX10, TX10, 66, tyX10, rfl, by decide, mw 990 (by decide +kernel) rfl, inX10, tyX10_ok, nmX10⟩
theorem fw_X10_46 : Fw RX10 46 9 13 := ⟨RX10, TX10, 66, tyX10, rfl, by decide, mw 991 (by decide +kernel) rfl, inX10, tyX10_ok, nmX10⟩
theorem fw_X10_49 : Fw RX10 49 9 14 := ⟨RX10, TX10, 66, tyX10, rfl, by decide, mw 992 (by decide +kernel) rfl, inX10, tyX10_ok, nmX10⟩
theorem fw_X10_52 : Fw RX10 52 9 15 := ⟨RX10, TX10, 66, tyX10, rfl, by decide, mw 993 (by decide +kernel) rfl, inX10, tyX10_ok, nmX10⟩
theorem fw_X10_55 : Fw RX10 55 9 16 := ⟨RX10, TX10, 66, tyX10, rfl, by decide, mw 994 (by decide +kernel) rfl, inX10, tyX10_ok, nmX10⟩
theorem fw_X10_247 : Fw RX10 247 9 17 := ⟨RX10, TX10, 66, tyX10, rfl, by decide, mw 995 (by decide +kernel) rfl, inX10, tyX10_ok, nmX10⟩
theorem fw_X10_58 : Fw RX10 58 9 18 := ⟨RX10, TX10, 66, tyX10, rfl, by decide, mw 996 (by decide +kernel) rfl, inX10, tyX10_ok, nmX10⟩
theorem fw_X10_61 : Fw RX10 61 9 19 := ⟨RX10, TX10, 66, tyX10, rfl, by decide, mw 997 (by decide +kernel) rfl, inX10, tyX10_ok, nmX10⟩
theorem fw_X10_64 : Fw RX10 64 9 20 := ⟨RX10, TX10, 66, tyX10, rfl, by decide, mw 998 (by decide +kernel) rfl, inX10, tyX10_ok, nmX10⟩
theorem fw_X10_352 : Fw RX10 352 9 21 := ⟨RX10, TX10, 66, tyX10, rfl, by decide, mw 999 (by decide +kernel) rfl, inX10, tyX10_ok, nmX10⟩
theorem fw_X10_355 : Fw RX10 355 9 22 := ⟨RX10, TX10, 66, tyX10, rfl, by decide, mw 1000 (by decide +kernel) rfl, inX10, tyX10_ok, nmX10⟩
theorem fw_X10_68 : Fw RX10 68 9 23 := ⟨RX10, TX10, 66, tyX10, rfl, by decide, mw 1001 (by decide +kernel) rfl, inX10, tyX10_ok, nmX10⟩
theorem fw_X10_71 : Fw RX10 71 9 24 := ⟨RX10, TX10, 66, tyX10, rfl, by decide, mw 1002 (by decide +kernel) rfl, inX10, tyX10_ok, nmX10⟩
theorem fw_X10_74 : Fw RX10 74 9 25 := ⟨RX10, TX10, 66, tyX10, rfl, by decide, mw 1003 (by decide +kernel) rfl, inX10, tyX10_ok, nmX10⟩
theorem fw_X10_77 : Fw RX10 77 9 26 := ⟨RX10, TX10, 66, tyX10, rfl, by decide, mw 1004 (by decide +kernel) rfl, inX10, tyX10_ok, nmX10⟩
theorem fw_X10_80 : Fw RX10 80 9 27 := ⟨RX10, TX10, 66, tyX10, rfl, by decide, mw 1005 (by decide +kernel) rfl, inX10, tyX10_ok, nmX10⟩
theorem fw_X10_83 : Fw RX10 83 9 28 := ⟨RX10, TX10, 66, tyX10, rfl, by decide, mw 1006 (by decide +kernel) rfl, inX10, tyX10_ok, nmX10⟩
theorem fw_X10_86 : Fw RX10 86 9 29 := ⟨RX10, TX10, 66, tyX10, rfl, by decide, mw 1007 (by decide +kernel) rfl, inX10, tyX10_ok, nmX10⟩
theorem fw_X10_358 : Fw RX10 358 9 30 := ⟨RX10, TX10, 66, tyX10, rfl, by decide, mw 1008 (by decide +kernel) rfl, inX10, tyX10_ok, nmX10⟩
theorem fw_X10_89 : Fw RX10 89 9 31 := ⟨RX10, TX10, 66, tyX10, rfl, by decide, mw 1009 (by decide +kernel) rfl, inX10, tyX10_ok, nmX10⟩
theorem fw_X10_361 : Fw RX10 361 9 32 := ⟨RX10, TX10, 66, tyX10, rfl, by decide, mw 1010 (by decide +kernel) rfl, inX10, tyX10_ok, nmX10⟩
theorem fw_X10_92 : Fw RX10 92 9 33 := ⟨RX10, TX10, 66, tyX10, rfl, by decide, mw 1011 (by decide +kernel) rfl, inX10, tyX10_ok, nmX10⟩
theorem fw_X10_95 : Fw RX10 95 9 34 := ⟨RX10, TX10, 66, tyX10, rfl, by decide, mw 1012 (by decide +kernel) rfl, inX10, tyX10_ok, nmX10⟩
theorem fw_X10_98 : Fw RX10 98 9 35 := ⟨RX10, TX10, 66, tyX10, rfl, by decide, mw 1013 (by decide +kernel) rfl, inX10, tyX10_ok, nmX10⟩
theorem fw_X10_101 : Fw RX10 101 9 36 := ⟨RX10, TX10, 66, tyX10, rfl, by decide, mw 1014 (by decide +kernel) rfl, inX10, tyX10_ok, nmX10⟩
theorem fw_X10_104 : Fw RX10 104 9 37 := ⟨RX10, TX10, 66, tyX10, rfl, by decide, mw 1015 (by decide +kernel) rfl, inX10, tyX10_ok, nmX10⟩
theorem fw_X10_107 : Fw RX10 107 9 38 := ⟨RX10, TX10, 66, tyX10, rfl, by decide, mw 1016 (by decide +kernel) rfl, inX10, tyX10_ok, nmX10⟩
theorem fw_X10_181 : Fw RX10 181 9 39 := ⟨RX10, TX10, 66, tyX10, rfl, by decide, mw 1017 (by decide +kernel) rfl, inX10, tyX10_ok, nmX10⟩
theorem fw_X10_208 : Fw RX10 208 9 40 := ⟨RX10, TX10, 66, tyX10, rfl, by decide, mw 1018 (by decide +kernel) rfl, inX10, tyX10_ok, nmX10⟩
theorem fw_X10_110 : Fw RX10 110 9 41 := ⟨RX10, TX10, 66, tyX10, rfl, by decide, mw 1019 (by decide +kernel) rfl, inX10, tyX10_ok, nmX10⟩
theorem fw_X10_113 : Fw RX10 113 9 42 := ⟨RX10, TX10, 66, tyX10, rfl, by decide, mw 1020 (by decide +kernel) rfl, inX10, tyX10_ok, nmX10⟩
theorem fw_X10_116 : Fw RX10 116 9 43 := ⟨RX10, TX10, 66, tyX10, rfl, by decide, mw 1021 (by decide +kernel) rfl, inX10, tyX10_ok, nmX10⟩
theorem fw_X10_119 : Fw RX10 119 9 44 := ⟨RX10, TX10, 66, tyX10, rfl, by decide, mw 1022 (by decide +kernel) rfl, inX10, tyX10_ok, nmX10⟩
theorem fw_X10_122 : Fw RX10 122 9 45 := ⟨RX10, TX10, 66, tyX10, rfl, by decide, mw 1023 (by decide +kernel) rfl, inX10, tyX10_ok, nmX10⟩
theorem fw_X10_125 : Fw RX10 125 9 46 := ⟨RX10, TX10, 66, tyX10, rfl, by decide, mw 1024 (by decide +kernel) rfl, inX10, tyX10_ok, nmX10⟩
theorem fw_X10_280 : Fw RX10 280 9 47 := ⟨RX10, TX10, 66, tyX10, rfl, by decide, mw 1025 (by decide +kernel) rfl, inX10, tyX10_ok, nmX10⟩
theorem fw_X10_128 : Fw RX10 128 9 48 := ⟨RX10, TX10, 66, tyX10, rfl, by decide, mw 1026 (by decide +kernel) rfl, inX10, tyX10_ok, nmX10⟩
theorem fw_X10_260 : Fw RX10 260 9 49 := ⟨RX10, TX10, 66, tyX10, rfl, by decide, mw 1027 (by decide +kernel) rfl, inX10, tyX10_ok, nmX10⟩
theorem fw_X10_131 : Fw RX10 131 9 50 := ⟨RX10, TX10, 66, tyX10, rfl, by decide, mw 1028 (by decide +kernel) rfl, inX10, tyX10_ok, nmX10⟩
theorem fw_X10_135 : Fw RX10 135 9 51 := ⟨RX10, TX10, 66, tyX10, rfl, by decide, mw 1029 (by decide +kernel) rfl, inX10, tyX10_ok, nmX10⟩
theorem fw_X10_138 : Fw RX10 138 9 52 := ⟨RX10, TX10, 66, tyX10, rfl, by decide, mw 1030 (by decide +kernel) rfl, inX10, tyX10_ok, nmX10⟩
theorem fw_X10_286 : Fw RX10 286 9 53 := ⟨RX10, TX10, 66, tyX10, rfl, by decide, mw 1031 (by decide +kernel) rfl, inX10, tyX10_ok, nmX10⟩
theorem fw_X10_141 : Fw RX10 141 9 54 := ⟨RX10, TX10, 66, tyX10, rfl, by decide, mw 1032 (by decide +kernel) rfl, inX10, tyX10_ok, nmX10⟩
theorem fw_X10_295 : Fw RX10 295 9 55 := ⟨RX10, TX10, 66, tyX10, rfl, by decide, mw 1033 (by decide +kernel) rfl, inX10, tyX10_ok, nmX10⟩
theorem fw_X10_144 : Fw RX10 144 9 56 := ⟨RX10, TX10, 66, tyX10, rfl, by decide, mw 1034 (by decide +kernel) rfl, inX10, tyX10_ok, nmX10⟩
theorem fw_X10_147 : Fw RX10 147 9 57 := ⟨RX10, TX10, 66, tyX10, rfl, by decide, mw 1035 (by decide +kernel) rfl, inX10, tyX10_ok, nmX10⟩
theorem fw_X10_150 : Fw RX10 150 9 58 := ⟨RX10, TX10, 66, tyX10, rfl, by decide, mw 1036 (by decide +kernel) rfl, inX10, tyX10_ok, nmX10⟩
theorem fw_X10_333 : Fw RX10 333 9 59 := ⟨RX10, TX10, 66, tyX10, rfl, by decide, mw 1037 (by decide +kernel) rfl, inX10, tyX10_ok, nmX10⟩
theorem fw_X10_153 : Fw RX10 153 9 60 := ⟨RX10, TX10, 66, tyX10, rfl, by decide, mw 1038 (by decide +kernel) rfl, inX10, tyX10_ok, nmX10⟩
theorem fw_X10_156 : Fw RX10 156 9 61 := ⟨RX10, TX10, 66, tyX10, rfl, by decide, mw 1039 (by decide +kernel) rfl, inX10, tyX10_ok, nmX10⟩
theorem fw_X10_159 : Fw RX10 159 9 62 := ⟨RX10, TX10, 66, tyX10, rfl, by decide, mw 1040 (by decide +kernel) rfl, inX10, tyX10_ok, nmX10⟩
theorem fw_X10_162 : Fw RX10 162 9 63 := ⟨RX10, TX10, 66, tyX10, rfl, by decide, mw 1041 (by decide +kernel) rfl, inX10, tyX10_ok, nmX10⟩
theorem fw_X10_324 : Fw RX10 324 9 64 := ⟨RX10, TX10, 66, tyX10, rfl, by decide, mw 1042 (by decide +kernel) rfl, inX10, tyX10_ok, nmX10⟩
theorem fw_X10_321 : Fw RX10 321 9 65 := ⟨RX10, TX10, 66, tyX10, rfl, by decide, mw 1043 (by decide +kernel) rfl, inX10, tyX10_ok, nmX10⟩
theorem fp_0_0 : Fp 0 0 true := fun C T N h => by cases Option.some.inj (show some (RX0, TX0, 3) = some (C, T, N) from h); exact ⟨rfl, by decide +kernel⟩
theorem fp_0_1 : Fp 0 1 false := fun C T N h => by cases Option.some.inj (show some (RX0, TX0, 3) = some (C, T, N) from h); exact ⟨rfl, by decide +kernel⟩
theorem fp_1_2 : Fp 1 2 false := fun C T N h => by cases Option.some.inj (show some (RX1, TX1, 4) = some (C, T, N) from h); exact ⟨rfl, by decide +kernel⟩
theorem fp_2_1 : Fp 2 1 true := fun C T N h => by cases Option.some.inj (show some (RX2, TX2, 8) = some (C, T, N) from h); exact ⟨rfl, by decide +kernel⟩
theorem fp_2_2 : Fp 2 2 false := fun C T N h => by cases Option.some.inj (show some (RX2, TX2, 8) = some (C, T, N) from h); exact ⟨rfl, by decide +kernel⟩
theorem fp_2_5 : Fp 2 5 true := fun C T N h => by cases Option.some.inj (show some (RX2, TX2, 8) = some (C, T, N) from h); exact ⟨rfl, by decide +kernel⟩
theorem fp_3_0 : Fp 3 0 false := fun C T N h => by cases Option.some.inj (show some (RX3, TX3, 2) = some (C, T, N) from h); exact ⟨rfl, by decide +kernel⟩
theorem fp_4_0 : Fp 4 0 false := fun C T N h => by cases Option.some.inj (show some (RX5, TX5, 15) = some (C, T, N) from h); exact ⟨rfl, by decide +kernel⟩
theorem fp_4_1 : Fp 4 1 false := fun C T N h => by cases Option.some.inj (show some (RX5, TX5, 15) = some (C, T, N) from h); exact ⟨rfl, by decide +kernel⟩
theorem fp_4_2 : Fp 4 2 false := fun C T N h => by cases Option.some.inj (show some (RX5, TX5, 15) = some (C, T, N) from h); exact ⟨rfl, by decide +kernel⟩
theorem fp_5_2 : Fp 5 2 false := fun C T N h => by cases Option.some.inj (show some (RX6, TX6, 6) = some (C, T, N) from h); exact ⟨rfl, by decide +kernel⟩
theorem fp_5_3 : Fp 5 3 false := fun C T N h => by cases Option.some.inj (show some (RX6, TX6, 6) = some (C, T, N) from h); exact ⟨rfl, by decide +kernel⟩
theorem fp_5_4 : Fp 5 4 false := fun C T N h => by cases Option.some.inj (show some (RX6, TX6, 6) = some (C, T, N) from h); exact ⟨rfl, by decide +kernel⟩
theorem fp_5_5 : Fp 5 5 false := fun C T N h => by cases Option.some.inj (show some (RX6, TX6, 6) = some (C, T, N) from h); exact ⟨rfl, by decide +kernel⟩
theorem fp_6_3 : Fp 6 3 true := fun C T N h => by cases Option.some.inj (show some (RX7, TX7, 11) = some (C, T, N) from h); exact ⟨rfl, by decide +kernel⟩
theorem fp_6_4 : Fp 6 4 true := fun C T N h => by cases Option.some.inj (show some (RX7, TX7, 11) = some (C, T, N) from h); exact ⟨rfl, by decide +kernel⟩
theorem fp_6_5 : Fp 6 5 true := fun C T N h => by cases Option.some.inj (show some (RX7, TX7, 11) = some (C, T, N) from h); exact ⟨rfl, by decide +kernel⟩
theorem fp_6_6 : Fp 6 6 false := fun C T N h => by cases Option.some.inj (show some (RX7, TX7, 11) = some (C, T, N) from h); exact ⟨rfl, by decide +kernel⟩
theorem fp_6_7 : Fp 6 7 false := fun C T N h => by cases Option.some.inj (show some (RX7, TX7, 11) = some (C, T, N) from h); exact ⟨rfl, by decide +kernel⟩
theorem fp_7_0 : Fp 7 0 false := fun C T N h => by cases Option.some.inj (show some (RX8, TX8, 3) = some (C, T, N) from h); exact ⟨rfl, by decide +kernel⟩
theorem fp_7_1 : Fp 7 1 false := fun C T N h => by cases Option.some.inj (show some (RX8, TX8, 3) = some (C, T, N) from h); exact ⟨rfl, by decide +kernel⟩
theorem fp_8_10 : Fp 8 10 true := fun C T N h => by cases Option.some.inj (show some (RX9, TX9, 11) = some (C, T, N) from h); exact ⟨rfl, by decide +kernel⟩
theorem fp_9_0 : Fp 9 0 false := fun C T N h => by cases Option.some.inj (show some (RX10, TX10, 66) = some (C, T, N) from h); exact ⟨rfl, by decide +kernel⟩
theorem fp_9_8 : Fp 9 8 false := fun C T N h => by cases Option.some.inj (show some (RX10, TX10, 66) = some (C, T, N) from h); exact ⟨rfl, by decide +kernel⟩
theorem fp_9_10 : Fp 9 10 false := fun C T N h => by cases Option.some.inj (show some (RX10, TX10, 66) = some (C, T, N) from h); exact ⟨rfl, by decide +kernel⟩
theorem fp_9_17 : Fp 9 17 false := fun C T N h => by cases Option.some.inj (show some (RX10, TX10, 66) = some (C, T, N) from h); exact ⟨rfl, by decide +kernel⟩
theorem fp_9_21 : Fp 9 21 true := fun C T N h => by cases Option.some.inj (show some (RX10, TX10, 66) = some (C, T, N) from h); exact ⟨rfl, by decide +kernel⟩
theorem fp_9_22 : Fp 9 22 false := fun C T N h => by cases Option.some.inj (show some (RX10, TX10, 66) = some (C, T, N) from h); exact ⟨rfl, by decide +kernel⟩
theorem fp_9_30 : Fp 9 30 false := fun C T N h => by cases Option.some.inj (show some (RX10, TX10, 66) = some (C, T, N) from h); exact ⟨rfl, by decide +kernel⟩
theorem fp_9_32 : Fp 9 32 false := fun C T N h => by cases Option.some.inj (show some (RX10, TX10, 66) = some (C, T, N) from h); exact ⟨rfl, by decide +kernel⟩
theorem fp_9_39 : Fp 9 39 true := fun C T N h => by cases Option.some.inj (show some (RX10, TX10, 66) = some (C, T, N) from h); exact ⟨rfl, by decide +kernel⟩
theorem fp_9_40 : Fp 9 40 false := fun C T N h => by cases Option.some.inj (show some (RX10, TX10, 66) = some (C, T, N) from h); exact ⟨rfl, by decide +kernel⟩
theorem fp_9_47 : Fp 9 47 false := fun C T N h => by cases Option.some.inj (show some (RX10, TX10, 66) = some (C, T, N) from h); exact ⟨rfl, by decide +kernel⟩
theorem fp_9_49 : Fp 9 49 false := fun C T N h => by cases Option.some.inj (show some (RX10, TX10, 66) = some (C, T, N) from h); exact ⟨rfl, by decide +kernel⟩
theorem fp_9_53 : Fp 9 53 false := fun C T N h => by cases Option.some.inj (show some (RX10, TX10, 66) = some (C, T, N) from h); exact ⟨rfl, by decide +kernel⟩
theorem fp_9_55 : Fp 9 55 false := fun C T N h => by cases Option.some.inj (show some (RX10, TX10, 66) = some (C, T, N) from h); exact ⟨rfl, by decide +kernel⟩
theorem fp_9_59 : Fp 9 59 false := fun C T N h => by cases Option.some.inj (show some (RX10, TX10, 66) = some (C, T, N) from h); exact ⟨rfl, by decide +kernel⟩
theorem fp_9_64 : Fp 9 64 false := fun C T N h => by cases Option.some.inj (show some (RX10, TX10, 66) = some (C, T, N) from h); exact ⟨rfl, by decide +kernel⟩
theorem fp_9_65 : Fp 9 65 true := fun C T N h => by cases Option.some.inj (show some (RX10, TX10, 66) = some (C, T, N) from h); exact ⟨rfl, by decide +kernel⟩
theorem cd_X0_init : Cond.code yX0_init cX0_init 1 none ∈ tb := mw 270 (by decide +kernel) rfl
theorem cd_X0_copyFrom : Cond.code yX0_copyFrom cX0_copyFrom 2 none ∈ tb := mw 950 (by decide +kernel) rfl
theorem cd_X0_isMet : Cond.code yX0_isMet cX0_isMet 8 (some .boolean) ∈ tb := mw 709 (by decide +kernel) rfl
theorem cd_X0_unit : Cond.code yX0_unit cX0_unit 4 (some .int) ∈ tb := mw 719 (by decide +kernel) rfl
theorem cd_X0_combined : Cond.code yX0_combined cX0_combined 3 (some .int) ∈ tb := mw 725 (by decide +kernel) rfl
theorem cd_X1_init : Cond.code yX1_init cX1_init 3 none ∈ tb := mw 223 (by decide +kernel) rfl
theorem cd_X1_begin : Cond.code yX1_begin cX1_begin 1 none ∈ tb := mw 625 (by decide +kernel) rfl
theorem cd_X1_handTo : Cond.code yX1_handTo cX1_handTo 2 none ∈ tb := mw 682 (by decide +kernel) rfl
theorem cd_X1_add : Cond.code yX1_add cX1_add 2 none ∈ tb := mw 669 (by decide +kernel) rfl
theorem cd_X1_readCondition : Cond.code yX1_readCondition cX1_readCondition 3 (some .boolean) ∈ tb := mw 629 (by decide +kernel) rfl
theorem cd_X1_readAll : Cond.code yX1_readAll cX1_readAll 3 (some .boolean) ∈ tb := mw 633 (by decide +kernel) rfl
theorem cd_X1_readTest : Cond.code yX1_readTest cX1_readTest 3 (some .boolean) ∈ tb := mw 637 (by decide +kernel) rfl
theorem cd_X1_readComparison : Cond.code yX1_readComparison cX1_readComparison 2 (some .boolean) ∈ tb := mw 645 (by decide +kernel) rfl
theorem cd_X1_readSum : Cond.code yX1_readSum cX1_readSum 3 (some .boolean) ∈ tb := mw 649 (by decide +kernel) rfl
theorem cd_X1_readUnit : Cond.code yX1_readUnit cX1_readUnit 3 (some .boolean) ∈ tb := mw 653 (by decide +kernel) rfl
theorem cd_X2_init : Cond.code yX2_init cX2_init 2 none ∈ tb := mw 186 (by decide +kernel) rfl
theorem cd_X2_refresh : Cond.code yX2_refresh cX2_refresh 3 none ∈ tb := mw 508 (by decide +kernel) rfl
theorem cd_X2_rowBehind : Cond.code yX2_rowBehind cX2_rowBehind 5 (some .int) ∈ tb := mw 524 (by decide +kernel) rfl
theorem cd_X2_numberOf : Cond.code yX2_numberOf cX2_numberOf 3 (some .int) ∈ tb := mw 554 (by decide +kernel) rfl
theorem cd_X2_successor : Cond.code yX2_successor cX2_successor 4 (some .int) ∈ tb := mw 569 (by decide +kernel) rfl
theorem cd_X2_waysBy : Cond.code yX2_waysBy cX2_waysBy 2 (some .long) ∈ tb := mw 605 (by decide +kernel) rfl
theorem cd_X2_countWays : Cond.code yX2_countWays cX2_countWays 6 none ∈ tb := mw 609 (by decide +kernel) rfl
theorem cd_X3_init : Cond.code yX3_init cX3_init 1 none ∈ tb := mw 329 (by decide +kernel) rfl
theorem cd_X3_isMissing : Cond.code yX3_isMissing cX3_isMissing 1 (some .boolean) ∈ tb := mw 909 (by decide +kernel) rfl
theorem cd_X3_hasPlace : Cond.code yX3_hasPlace cX3_hasPlace 2 (some .boolean) ∈ tb := mw 913 (by decide +kernel) rfl
theorem cd_X3_resize : Cond.code yX3_resize cX3_resize 2 none ∈ tb := mw 900 (by decide +kernel) rfl
theorem cd_X4_one : Cond.code yX4_one cX4_one 1 (some .int) ∈ tb := mw 437 (by decide +kernel) rfl
theorem cd_X4_at : Cond.code yX4_at cX4_at 2 (some .int) ∈ tb := mw 488 (by decide +kernel) rfl
theorem cd_X4_without : Cond.code yX4_without cX4_without 2 (some .int) ∈ tb := mw 530 (by decide +kernel) rfl
theorem cd_X4_notBelow : Cond.code yX4_notBelow cX4_notBelow 3 (some .int) ∈ tb := mw 429 (by decide +kernel) rfl
theorem cd_X4_isWithin : Cond.code yX4_isWithin cX4_isWithin 2 (some .boolean) ∈ tb := mw 517 (by decide +kernel) rfl
theorem cd_X4_lesser : Cond.code yX4_lesser cX4_lesser 3 (some .int) ∈ tb := mw 576 (by decide +kernel) rfl
theorem cd_X4_greater : Cond.code yX4_greater cX4_greater 3 (some .int) ∈ tb := mw 426 (by decide +kernel) rfl
theorem cd_X4_sum : Cond.code yX4_sum cX4_sum 1 (some .int) ∈ tb := mw 561 (by decide +kernel) rfl
theorem cd_X4_decimal : Cond.code yX4_decimal cX4_decimal 1 (some .int) ∈ tb := mw 541 (by decide +kernel) rfl
theorem cd_X4_slot : Cond.code yX4_slot cX4_slot 1 (some .int) ∈ tb := mw 520 (by decide +kernel) rfl
theorem cd_X5_init : Cond.code yX5_init cX5_init 1 none ∈ tb := mw 88 (by decide +kernel) rfl
theorem cd_X5_beginWith : Cond.code yX5_beginWith cX5_beginWith 2 none ∈ tb := mw 382 (by decide +kernel) rfl
theorem cd_X5_copyFrom : Cond.code yX5_copyFrom cX5_copyFrom 2 none ∈ tb := mw 945 (by decide +kernel) rfl
theorem cd_X5_spotOf : Cond.code yX5_spotOf cX5_spotOf 2 (some .int) ∈ tb := mw 419 (by decide +kernel) rfl
theorem cd_X5_placeOf : Cond.code yX5_placeOf cX5_placeOf 2 (some .int) ∈ tb := mw 434 (by decide +kernel) rfl
theorem cd_X5_hasProcess : Cond.code yX5_hasProcess cX5_hasProcess 2 (some .boolean) ∈ tb := mw 401 (by decide +kernel) rfl
theorem cd_X5_hasEvent : Cond.code yX5_hasEvent cX5_hasEvent 3 (some .boolean) ∈ tb := mw 477 (by decide +kernel) rfl
theorem cd_X5_hasMessage : Cond.code yX5_hasMessage cX5_hasMessage 2 (some .boolean) ∈ tb := mw 453 (by decide +kernel) rfl
theorem cd_X5_isTaken : Cond.code yX5_isTaken cX5_isTaken 2 (some .boolean) ∈ tb := mw 457 (by decide +kernel) rfl
theorem cd_X5_isFullAt : Cond.code yX5_isFullAt cX5_isFullAt 2 (some .boolean) ∈ tb := mw 412 (by decide +kernel) rfl
theorem cd_X5_clockOf : Cond.code yX5_clockOf cX5_clockOf 3 (some .int) ∈ tb := mw 423 (by decide +kernel) rfl
theorem cd_X5_openMessage : Cond.code yX5_openMessage cX5_openMessage 3 (some .int) ∈ tb := mw 445 (by decide +kernel) rfl
theorem cd_X5_closeMessage : Cond.code yX5_closeMessage cX5_closeMessage 3 none ∈ tb := mw 461 (by decide +kernel) rfl
theorem cd_X5_append : Cond.code yX5_append cX5_append 8 none ∈ tb := mw 416 (by decide +kernel) rfl
theorem cd_X5_removeLast : Cond.code yX5_removeLast cX5_removeLast 3 none ∈ tb := mw 469 (by decide +kernel) rfl
theorem cd_X5_marksInAll : Cond.code yX5_marksInAll cX5_marksInAll 4 (some .int) ∈ tb := mw 963 (by decide +kernel) rfl
theorem cd_X5_rowOfDigits : Cond.code yX5_rowOfDigits cX5_rowOfDigits 6 (some .int) ∈ tb := mw 550 (by decide +kernel) rfl
theorem cd_X5_holdsTogether : Cond.code yX5_holdsTogether cX5_holdsTogether 4 (some .boolean) ∈ tb := mw 513 (by decide +kernel) rfl
theorem cd_X5_valueIn : Cond.code yX5_valueIn cX5_valueIn 4 (some .int) ∈ tb := mw 597 (by decide +kernel) rfl
theorem cd_X5_underWay : Cond.code yX5_underWay cX5_underWay 6 (some .int) ∈ tb := mw 589 (by decide +kernel) rfl
theorem cd_X5_endsInMarks : Cond.code yX5_endsInMarks cX5_endsInMarks 4 (some .boolean) ∈ tb := mw 840 (by decide +kernel) rfl
theorem cd_X6_init : Cond.code yX6_init cX6_init 3 none ∈ tb := mw 242 (by decide +kernel) rfl
theorem cd_X6_readsWhole : Cond.code yX6_readsWhole cX6_readsWhole 2 (some .boolean) ∈ tb := mw 860 (by decide +kernel) rfl
theorem cd_X6_readStatement : Cond.code yX6_readStatement cX6_readStatement 1 (some .boolean) ∈ tb := mw 864 (by decide +kernel) rfl
theorem cd_X6_readMessage : Cond.code yX6_readMessage cX6_readMessage 1 (some .boolean) ∈ tb := mw 870 (by decide +kernel) rfl
theorem cd_X6_readValue : Cond.code yX6_readValue cX6_readValue 3 (some .boolean) ∈ tb := mw 874 (by decide +kernel) rfl
theorem cd_X7_init : Cond.code yX7_init cX7_init 4 none ∈ tb := mw 289 (by decide +kernel) rfl
theorem cd_X7_refresh : Cond.code yX7_refresh cX7_refresh 1 none ∈ tb := mw 701 (by decide +kernel) rfl
theorem cd_X7_needPassable : Cond.code yX7_needPassable cX7_needPassable 1 none ∈ tb := mw 753 (by decide +kernel) rfl
theorem cd_X7_needSlice : Cond.code yX7_needSlice cX7_needSlice 1 none ∈ tb := mw 783 (by decide +kernel) rfl
theorem cd_X7_flagMet : Cond.code yX7_flagMet cX7_flagMet 3 none ∈ tb := mw 705 (by decide +kernel) rfl
theorem cd_X7_flagPassable : Cond.code yX7_flagPassable cX7_flagPassable 3 none ∈ tb := mw 757 (by decide +kernel) rfl
theorem cd_X7_passableStep : Cond.code yX7_passableStep cX7_passableStep 4 (some .int) ∈ tb := mw 761 (by decide +kernel) rfl
theorem cd_X7_gatherLeastRows : Cond.code yX7_gatherLeastRows cX7_gatherLeastRows 4 none ∈ tb := mw 787 (by decide +kernel) rfl
theorem cd_X7_gather : Cond.code yX7_gather cX7_gather 4 none ∈ tb := mw 792 (by decide +kernel) rfl
theorem cd_X7_meetOf : Cond.code yX7_meetOf cX7_meetOf 2 (some .int) ∈ tb := mw 797 (by decide +kernel) rfl
theorem cd_X7_flagSliced : Cond.code yX7_flagSliced cX7_flagSliced 2 none ∈ tb := mw 802 (by decide +kernel) rfl
theorem cd_X7_isJoinOfLeast : Cond.code yX7_isJoinOfLeast cX7_isJoinOfLeast 4 (some .boolean) ∈ tb := mw 806 (by decide +kernel) rfl
theorem cd_X7_meetsAt : Cond.code yX7_meetsAt cX7_meetsAt 2 (some .int) ∈ tb := mw 729 (by decide +kernel) rfl
theorem cd_X7_pickMet : Cond.code yX7_pickMet cX7_pickMet 2 (some .int) ∈ tb := mw 737 (by decide +kernel) rfl
theorem cd_X7_pickSliced : Cond.code yX7_pickSliced cX7_pickSliced 2 (some .int) ∈ tb := mw 779 (by decide +kernel) rfl
theorem cd_X7_flaggedAt : Cond.code yX7_flaggedAt cX7_flaggedAt 5 (some .int) ∈ tb := mw 741 (by decide +kernel) rfl
theorem cd_X7_isExact : Cond.code yX7_isExact cX7_isExact 1 (some .boolean) ∈ tb := mw 815 (by decide +kernel) rfl
theorem cd_X7_hasWayRound : Cond.code yX7_hasWayRound cX7_hasWayRound 1 (some .boolean) ∈ tb := mw 749 (by decide +kernel) rfl
theorem cd_X7_stepRound : Cond.code yX7_stepRound cX7_stepRound 5 (some .int) ∈ tb := mw 770 (by decide +kernel) rfl
theorem cd_X7_leastWith : Cond.code yX7_leastWith cX7_leastWith 4 (some .int) ∈ tb := mw 823 (by decide +kernel) rfl
theorem cd_X7_copyMetTo : Cond.code yX7_copyMetTo cX7_copyMetTo 4 (some .int) ∈ tb := mw 925 (by decide +kernel) rfl
theorem cd_X7_judgeOf : Cond.code yX7_judgeOf cX7_judgeOf 4 (some .int) ∈ tb := mw 937 (by decide +kernel) rfl
theorem cd_X8_init : Cond.code yX8_init cX8_init 1 none ∈ tb := mw 166 (by decide +kernel) rfl
theorem cd_X8_append : Cond.code yX8_append cX8_append 2 none ∈ tb := mw 848 (by decide +kernel) rfl
theorem cd_X8_clear : Cond.code yX8_clear cX8_clear 1 none ∈ tb := mw 678 (by decide +kernel) rfl
theorem cd_X8_isAtEnd : Cond.code yX8_isAtEnd cX8_isAtEnd 1 (some .boolean) ∈ tb := mw 674 (by decide +kernel) rfl
theorem cd_X8_peek : Cond.code yX8_peek cX8_peek 1 (some .int) ∈ tb := mw 641 (by decide +kernel) rfl
theorem cd_X8_accept : Cond.code yX8_accept cX8_accept 2 (some .boolean) ∈ tb := mw 657 (by decide +kernel) rfl
theorem cd_X8_figureBelow : Cond.code yX8_figureBelow cX8_figureBelow 3 (some .int) ∈ tb := mw 661 (by decide +kernel) rfl
theorem cd_X8_number : Cond.code yX8_number cX8_number 4 (some .int) ∈ tb := mw 665 (by decide +kernel) rfl
theorem cd_X9_init : Cond.code yX9_init cX9_init 2 none ∈ tb := mw 80 (by decide +kernel) rfl
theorem cd_X9_processes : Cond.code yX9_processes cX9_processes 4 (some .int) ∈ tb := mw 378 (by decide +kernel) rfl
theorem cd_X9_start : Cond.code yX9_start cX9_start 4 (some .int) ∈ tb := mw 397 (by decide +kernel) rfl
theorem cd_X9_step : Cond.code yX9_step cX9_step 3 (some .int) ∈ tb := mw 408 (by decide +kernel) rfl
theorem cd_X9_send : Cond.code yX9_send cX9_send 4 (some .int) ∈ tb := mw 441 (by decide +kernel) rfl
theorem cd_X9_take : Cond.code yX9_take cX9_take 4 (some .int) ∈ tb := mw 449 (by decide +kernel) rfl
theorem cd_X9_back : Cond.code yX9_back cX9_back 1 (some .int) ∈ tb := mw 465 (by decide +kernel) rfl
theorem cd_X9_eventOf : Cond.code yX9_eventOf cX9_eventOf 5 (some .int) ∈ tb := mw 473 (by decide +kernel) rfl
theorem cd_X9_clock : Cond.code yX9_clock cX9_clock 4 (some .int) ∈ tb := mw 483 (by decide +kernel) rfl
theorem cd_X9_ahead : Cond.code yX9_ahead cX9_ahead 5 (some .int) ∈ tb := mw 492 (by decide +kernel) rfl
theorem cd_X9_message : Cond.code yX9_message cX9_message 3 (some .int) ∈ tb := mw 496 (by decide +kernel) rfl
theorem cd_X9_cuts : Cond.code yX9_cuts cX9_cuts 1 (some .int) ∈ tb := mw 500 (by decide +kernel) rfl
theorem cd_X9_cut : Cond.code yX9_cut cX9_cut 2 (some .int) ∈ tb := mw 534 (by decide +kernel) rfl
theorem cd_X9_which : Cond.code yX9_which cX9_which 4 (some .int) ∈ tb := mw 546 (by decide +kernel) rfl
theorem cd_X9_level : Cond.code yX9_level cX9_level 2 (some .int) ∈ tb := mw 558 (by decide +kernel) rfl
theorem cd_X9_next : Cond.code yX9_next cX9_next 6 (some .int) ∈ tb := mw 565 (by decide +kernel) rfl
theorem cd_X9_meet : Cond.code yX9_meet cX9_meet 3 (some .int) ∈ tb := mw 573 (by decide +kernel) rfl
theorem cd_X9_join : Cond.code yX9_join cX9_join 3 (some .int) ∈ tb := mw 580 (by decide +kernel) rfl
theorem cd_X9_under : Cond.code yX9_under cX9_under 2 (some .int) ∈ tb := mw 585 (by decide +kernel) rfl
theorem cd_X9_value : Cond.code yX9_value cX9_value 3 (some .int) ∈ tb := mw 593 (by decide +kernel) rfl
theorem cd_X9_ways : Cond.code yX9_ways cX9_ways 2 (some .long) ∈ tb := mw 601 (by decide +kernel) rfl
theorem cd_X9_read : Cond.code yX9_read cX9_read 4 (some .int) ∈ tb := mw 618 (by decide +kernel) rfl
theorem cd_X9_holds : Cond.code yX9_holds cX9_holds 4 (some .int) ∈ tb := mw 689 (by decide +kernel) rfl
theorem cd_X9_possible : Cond.code yX9_possible cX9_possible 4 (some .int) ∈ tb := mw 733 (by decide +kernel) rfl
theorem cd_X9_sure : Cond.code yX9_sure cX9_sure 3 (some .int) ∈ tb := mw 745 (by decide +kernel) rfl
theorem cd_X9_around : Cond.code yX9_around cX9_around 4 (some .int) ∈ tb := mw 766 (by decide +kernel) rfl
theorem cd_X9_slice : Cond.code yX9_slice cX9_slice 4 (some .int) ∈ tb := mw 775 (by decide +kernel) rfl
theorem cd_X9_regular : Cond.code yX9_regular cX9_regular 3 (some .int) ∈ tb := mw 811 (by decide +kernel) rfl
theorem cd_X9_least : Cond.code yX9_least cX9_least 5 (some .int) ∈ tb := mw 819 (by decide +kernel) rfl
theorem cd_X9_forget : Cond.code yX9_forget cX9_forget 3 (some .int) ∈ tb := mw 828 (by decide +kernel) rfl
theorem cd_X9_mark : Cond.code yX9_mark cX9_mark 6 (some .int) ∈ tb := mw 832 (by decide +kernel) rfl
theorem cd_X9_line : Cond.code yX9_line cX9_line 3 (some .int) ∈ tb := mw 836 (by decide +kernel) rfl
theorem cd_X9_feed : Cond.code yX9_feed cX9_feed 2 (some .int) ∈ tb := mw 844 (by decide +kernel) rfl
theorem cd_X9_wipe : Cond.code yX9_wipe cX9_wipe 2 (some .int) ∈ tb := mw 852 (by decide +kernel) rfl
theorem cd_X9_tell : Cond.code yX9_tell cX9_tell 2 (some .int) ∈ tb := mw 856 (by decide +kernel) rfl
theorem cd_X9_list : Cond.code yX9_list cX9_list 3 (some .int) ∈ tb := mw 893 (by decide +kernel) rfl
theorem cd_X9_lay : Cond.code yX9_lay cX9_lay 5 (some .int) ∈ tb := mw 905 (by decide +kernel) rfl
theorem cd_X9_get : Cond.code yX9_get cX9_get 3 (some .long) ∈ tb := mw 917 (by decide +kernel) rfl
theorem cd_X9_film : Cond.code yX9_film cX9_film 4 (some .int) ∈ tb := mw 921 (by decide +kernel) rfl
theorem cd_X9_judge : Cond.code yX9_judge cX9_judge 3 (some .int) ∈ tb := mw 933 (by decide +kernel) rfl
theorem cd_X9_image : Cond.code yX9_image cX9_image 2 (some .int) ∈ tb := mw 941 (by decide +kernel) rfl
theorem cd_X9_undo : Cond.code yX9_undo cX9_undo 2 (some .int) ∈ tb := mw 955 (by decide +kernel) rfl
theorem cd_X9_count : Cond.code yX9_count cX9_count 2 (some .int) ∈ tb := mw 959 (by decide +kernel) rfl
theorem cd_X9_isValue : Cond.code yX9_isValue cX9_isValue 1 (some .boolean) ∈ tb := mw 404 (by decide +kernel) rfl
theorem cd_X9_isCondition : Cond.code yX9_isCondition cX9_isCondition 1 (some .boolean) ∈ tb := mw 621 (by decide +kernel) rfl
theorem cd_X9_isList : Cond.code yX9_isList cX9_isList 1 (some .boolean) ∈ tb := mw 896 (by decide +kernel) rfl
theorem cd_X9_hasCut : Cond.code yX9_hasCut cX9_hasCut 2 (some .boolean) ∈ tb := mw 538 (by decide +kernel) rfl
theorem cd_X9_lackOf : Cond.code yX9_lackOf cX9_lackOf 3 (some .int) ∈ tb := mw 693 (by decide +kernel) rfl
theorem cd_X9_noteChange : Cond.code yX9_noteChange cX9_noteChange 1 none ∈ tb := mw 389 (by decide +kernel) rfl
theorem cd_X9_noteValues : Cond.code yX9_noteValues cX9_noteValues 2 none ∈ tb := mw 393 (by decide +kernel) rfl
theorem cd_X9_freshLattice : Cond.code yX9_freshLattice cX9_freshLattice 1 (some (.object "RunCuts$Lattice")) ∈ tb := mw 504 (by decide +kernel) rfl
theorem cd_X9_freshSurvey : Cond.code yX9_freshSurvey cX9_freshSurvey 2 (some (.object "RunCuts$Survey")) ∈ tb := mw 697 (by decide +kernel) rfl
theorem cd_X9_doStatements : Cond.code yX9_doStatements cX9_doStatements 2 (some .int) ∈ tb := mw 880 (by decide +kernel) rfl
theorem cd_X9_doStatement : Cond.code yX9_doStatement cX9_doStatement 1 (some .int) ∈ tb := mw 885 (by decide +kernel) rfl
theorem cd_X9_conditionsTold : Cond.code yX9_conditionsTold cX9_conditionsTold 3 (some .int) ∈ tb := mw 967 (by decide +kernel) rfl
theorem cd_X9_listsThere : Cond.code yX9_listsThere cX9_listsThere 3 (some .int) ∈ tb := mw 971 (by decide +kernel) rfl
theorem cd_X10_init : Cond.code yX10_init cX10_init 1 none ∈ tb := mw 976 (by decide +kernel) rfl
theorem cd_X10_in : Cond.code yX10_in cX10_in 6 (some .boolean) ∈ tb := mw 1185 (by decide +kernel) rfl
theorem cd_X10_isProcess : Cond.code yX10_isProcess cX10_isProcess 2 (some .boolean) ∈ tb := mw 1193 (by decide +kernel) rfl
theorem cd_X10_isEvent : Cond.code yX10_isEvent cX10_isEvent 3 (some .boolean) ∈ tb := mw 1229 (by decide +kernel) rfl
theorem cd_X10_at : Cond.code yX10_at cX10_at 2 (some .int) ∈ tb := mw 1206 (by decide +kernel) rfl
theorem cd_X10_processes : Cond.code yX10_processes cX10_processes 4 (some .int) ∈ tb := mw 1181 (by decide +kernel) rfl
theorem cd_X10_start : Cond.code yX10_start cX10_start 4 (some .int) ∈ tb := mw 1189 (by decide +kernel) rfl
theorem cd_X10_comes : Cond.code yX10_comes cX10_comes 8 (some .int) ∈ tb := mw 1203 (by decide +kernel) rfl
theorem cd_X10_step : Cond.code yX10_step cX10_step 3 (some .int) ∈ tb := mw 1199 (by decide +kernel) rfl
theorem cd_X10_send : Cond.code yX10_send cX10_send 4 (some .int) ∈ tb := mw 1213 (by decide +kernel) rfl
theorem cd_X10_take : Cond.code yX10_take cX10_take 5 (some .int) ∈ tb := mw 1217 (by decide +kernel) rfl
theorem cd_X10_back : Cond.code yX10_back cX10_back 3 (some .int) ∈ tb := mw 1221 (by decide +kernel) rfl
theorem cd_X10_eventOf : Cond.code yX10_eventOf cX10_eventOf 5 (some .int) ∈ tb := mw 1225 (by decide +kernel) rfl
theorem cd_X10_clock : Cond.code yX10_clock cX10_clock 4 (some .int) ∈ tb := mw 1234 (by decide +kernel) rfl
theorem cd_X10_ahead : Cond.code yX10_ahead cX10_ahead 5 (some .int) ∈ tb := mw 1238 (by decide +kernel) rfl
theorem cd_X10_message : Cond.code yX10_message cX10_message 3 (some .int) ∈ tb := mw 1242 (by decide +kernel) rfl
theorem cd_X10_holdsNow : Cond.code yX10_holdsNow cX10_holdsNow 3 (some .boolean) ∈ tb := mw 1254 (by decide +kernel) rfl
theorem cd_X10_digitsNow : Cond.code yX10_digitsNow cX10_digitsNow 3 (some .int) ∈ tb := mw 1258 (by decide +kernel) rfl
theorem cd_X10_layCuts : Cond.code yX10_layCuts cX10_layCuts 3 none ∈ tb := mw 1250 (by decide +kernel) rfl
theorem cd_X10_isCut : Cond.code yX10_isCut cX10_isCut 2 (some .boolean) ∈ tb := mw 1266 (by decide +kernel) rfl
theorem cd_X10_cuts : Cond.code yX10_cuts cX10_cuts 1 (some .int) ∈ tb := mw 1246 (by decide +kernel) rfl
theorem cd_X10_cut : Cond.code yX10_cut cX10_cut 2 (some .int) ∈ tb := mw 1262 (by decide +kernel) rfl
theorem cd_X10_which : Cond.code yX10_which cX10_which 4 (some .int) ∈ tb := mw 1270 (by decide +kernel) rfl
theorem cd_X10_levelOf : Cond.code yX10_levelOf cX10_levelOf 4 (some .int) ∈ tb := mw 1278 (by decide +kernel) rfl
theorem cd_X10_level : Cond.code yX10_level cX10_level 2 (some .int) ∈ tb := mw 1274 (by decide +kernel) rfl
theorem cd_X10_nextBy : Cond.code yX10_nextBy cX10_nextBy 5 (some .int) ∈ tb := mw 1286 (by decide +kernel) rfl
theorem cd_X10_next : Cond.code yX10_next cX10_next 5 (some .int) ∈ tb := mw 1282 (by decide +kernel) rfl
theorem cd_X10_both : Cond.code yX10_both cX10_both 7 (some .int) ∈ tb := mw 1294 (by decide +kernel) rfl
theorem cd_X10_meet : Cond.code yX10_meet cX10_meet 3 (some .int) ∈ tb := mw 1290 (by decide +kernel) rfl
theorem cd_X10_join : Cond.code yX10_join cX10_join 3 (some .int) ∈ tb := mw 1299 (by decide +kernel) rfl
theorem cd_X10_underOf : Cond.code yX10_underOf cX10_underOf 6 (some .int) ∈ tb := mw 1307 (by decide +kernel) rfl
theorem cd_X10_under : Cond.code yX10_under cX10_under 2 (some .int) ∈ tb := mw 1303 (by decide +kernel) rfl
theorem cd_X10_valueIn : Cond.code yX10_valueIn cX10_valueIn 4 (some .int) ∈ tb := mw 1315 (by decide +kernel) rfl
theorem cd_X10_value : Cond.code yX10_value cX10_value 3 (some .int) ∈ tb := mw 1311 (by decide +kernel) rfl
theorem cd_X10_ways : Cond.code yX10_ways cX10_ways 4 (some .long) ∈ tb := mw 1319 (by decide +kernel) rfl
theorem cd_X10_tapeAt : Cond.code yX10_tapeAt cX10_tapeAt 2 (some .int) ∈ tb := mw 1340 (by decide +kernel) rfl
theorem cd_X10_isFigure : Cond.code yX10_isFigure cX10_isFigure 1 (some .boolean) ∈ tb := mw 1344 (by decide +kernel) rfl
theorem cd_X10_behindUnit : Cond.code yX10_behindUnit cX10_behindUnit 3 (some .int) ∈ tb := mw 1336 (by decide +kernel) rfl
theorem cd_X10_testEnds : Cond.code yX10_testEnds cX10_testEnds 1 none ∈ tb := mw 1349 (by decide +kernel) rfl
theorem cd_X10_conditionFault : Cond.code yX10_conditionFault cX10_conditionFault 4 (some .int) ∈ tb := mw 1332 (by decide +kernel) rfl
theorem cd_X10_isOpen : Cond.code yX10_isOpen cX10_isOpen 2 (some .boolean) ∈ tb := mw 1353 (by decide +kernel) rfl
theorem cd_X10_isCondition : Cond.code yX10_isCondition cX10_isCondition 1 (some .boolean) ∈ tb := mw 1327 (by decide +kernel) rfl
theorem cd_X10_read : Cond.code yX10_read cX10_read 5 (some .int) ∈ tb := mw 1324 (by decide +kernel) rfl
theorem cd_X10_unitIn : Cond.code yX10_unitIn cX10_unitIn 6 (some .int) ∈ tb := mw 1373 (by decide +kernel) rfl
theorem cd_X10_meets : Cond.code yX10_meets cX10_meets 8 (some .boolean) ∈ tb := mw 1361 (by decide +kernel) rfl
theorem cd_X10_sumIn : Cond.code yX10_sumIn cX10_sumIn 8 (some .int) ∈ tb := mw 1369 (by decide +kernel) rfl
theorem cd_X10_compare : Cond.code yX10_compare cX10_compare 6 (some .boolean) ∈ tb := mw 1365 (by decide +kernel) rfl
theorem cd_X10_layMet : Cond.code yX10_layMet cX10_layMet 3 none ∈ tb := mw 1381 (by decide +kernel) rfl
theorem cd_X10_wrongCondition : Cond.code yX10_wrongCondition cX10_wrongCondition 2 (some .int) ∈ tb := mw 1389 (by decide +kernel) rfl
theorem cd_X10_holds : Cond.code yX10_holds cX10_holds 3 (some .int) ∈ tb := mw 1357 (by decide +kernel) rfl
theorem cd_X10_possible : Cond.code yX10_possible cX10_possible 5 (some .int) ∈ tb := mw 1377 (by decide +kernel) rfl
theorem cd_X10_layFree : Cond.code yX10_layFree cX10_layFree 5 (some .boolean) ∈ tb := mw 1393 (by decide +kernel) rfl
theorem cd_X10_sure : Cond.code yX10_sure cX10_sure 3 (some .int) ∈ tb := mw 1385 (by decide +kernel) rfl
theorem cd_X10_around : Cond.code yX10_around cX10_around 6 (some .int) ∈ tb := mw 1397 (by decide +kernel) rfl
theorem cd_X10_layLeast : Cond.code yX10_layLeast cX10_layLeast 7 none ∈ tb := mw 1405 (by decide +kernel) rfl
theorem cd_X10_isSliced : Cond.code yX10_isSliced cX10_isSliced 6 (some .boolean) ∈ tb := mw 1409 (by decide +kernel) rfl
theorem cd_X10_slice : Cond.code yX10_slice cX10_slice 5 (some .int) ∈ tb := mw 1401 (by decide +kernel) rfl
theorem cd_X10_regular : Cond.code yX10_regular cX10_regular 5 (some .int) ∈ tb := mw 1413 (by decide +kernel) rfl
theorem cd_X10_least : Cond.code yX10_least cX10_least 5 (some .int) ∈ tb := mw 1417 (by decide +kernel) rfl
theorem cd_X10_forget : Cond.code yX10_forget cX10_forget 3 (some .int) ∈ tb := mw 1421 (by decide +kernel) rfl
theorem cd_X10_mark : Cond.code yX10_mark cX10_mark 5 (some .int) ∈ tb := mw 1425 (by decide +kernel) rfl
theorem cd_X10_line : Cond.code yX10_line cX10_line 6 (some .int) ∈ tb := mw 1429 (by decide +kernel) rfl
theorem cd_X10_feed : Cond.code yX10_feed cX10_feed 2 (some .int) ∈ tb := mw 1433 (by decide +kernel) rfl
theorem cd_X10_wipe : Cond.code yX10_wipe cX10_wipe 2 (some .int) ∈ tb := mw 1439 (by decide +kernel) rfl
theorem cd_X10_wants : Cond.code yX10_wants cX10_wants 2 none ∈ tb := mw 1451 (by decide +kernel) rfl
theorem cd_X10_figure : Cond.code yX10_figure cX10_figure 2 (some .int) ∈ tb := mw 1455 (by decide +kernel) rfl
theorem cd_X10_statement : Cond.code yX10_statement cX10_statement 6 none ∈ tb := mw 1447 (by decide +kernel) rfl
theorem cd_X10_tell : Cond.code yX10_tell cX10_tell 5 (some .int) ∈ tb := mw 1443 (by decide +kernel) rfl
theorem cd_X10_isList : Cond.code yX10_isList cX10_isList 1 (some .boolean) ∈ tb := mw 1465 (by decide +kernel) rfl
theorem cd_X10_list : Cond.code yX10_list cX10_list 4 (some .int) ∈ tb := mw 1462 (by decide +kernel) rfl
theorem cd_X10_lay : Cond.code yX10_lay cX10_lay 5 (some .int) ∈ tb := mw 1469 (by decide +kernel) rfl
theorem cd_X10_get : Cond.code yX10_get cX10_get 3 (some .long) ∈ tb := mw 1473 (by decide +kernel) rfl
theorem cd_X10_film : Cond.code yX10_film cX10_film 5 (some .int) ∈ tb := mw 1477 (by decide +kernel) rfl
theorem cd_X10_judge : Cond.code yX10_judge cX10_judge 5 (some .int) ∈ tb := mw 1481 (by decide +kernel) rfl
theorem cd_X10_copyRow : Cond.code yX10_copyRow cX10_copyRow 3 none ∈ tb := mw 1488 (by decide +kernel) rfl
theorem cd_X10_image : Cond.code yX10_image cX10_image 1 (some .int) ∈ tb := mw 1485 (by decide +kernel) rfl
theorem cd_X10_undo : Cond.code yX10_undo cX10_undo 1 (some .int) ∈ tb := mw 1492 (by decide +kernel) rfl
theorem cd_X10_count : Cond.code yX10_count cX10_count 6 (some .int) ∈ tb := mw 1496 (by decide +kernel) rfl
theorem cd_J6_bitCount_0f7a4 : Cond.code yJ6_bitCount_0f7a4 cJ6_bitCount_0f7a4 1 (some .int) ∈ tb := mw 713 (by decide +kernel) rfl
theorem cd_J9_max_7cf53 : Cond.code yJ9_max_7cf53 cJ9_max_7cf53 2 (some .int) ∈ tb := mw 1209 (by decide +kernel) rfl
theorem cd_J9_min_7cf53 : Cond.code yJ9_min_7cf53 cJ9_min_7cf53 2 (some .int) ∈ tb := mw 928 (by decide +kernel) rfl
theorem cd_J7_fill_d0a16 : Cond.code yJ7_fill_d0a16 cJ7_fill_d0a16 5 none ∈ tb := mw 612 (by decide +kernel) rfl
theorem cd_J7_fill_53178 : Cond.code yJ7_fill_53178 cJ7_fill_53178 4 none ∈ tb := mw 385 (by decide +kernel) rfl
theorem cv_L_13 : Vw RL 13 RX9 yX9_processes cX9_processes 4 (some .int) 1 := ⟨rfl, mw 375 (by decide +kernel) rfl, mw 376 (by decide +kernel) rfl, mw 377 (by decide +kernel) rfl, mw 61 (by decide +kernel) rfl, cd_X9_processes, by decide +kernel, by decide +kernel, by decide +kernel⟩
theorem cv_X9_87 : Vw RX9 87 RX5 yX5_beginWith cX5_beginWith 2 none 1 := ⟨rfl, mw 379 (by decide +kernel) rfl, mw 380 (by decide +kernel) rfl, mw 381 (by decide +kernel) rfl, mw 62 (by decide +kernel) rfl, cd_X5_beginWith, by decide +kernel, by decide +kernel, by decide +kernel⟩
theorem cv_X5_58 : Sw RX5 58 yJ7_fill_53178 cJ7_fill_53178 4 none 2 := ⟨mw 383 (by decide +kernel) rfl, mw 384 (by decide +kernel) rfl, mw 71 (by decide +kernel) rfl, cd_J7_fill_53178, by decide +kernel, by decide +kernel, by decide +kernel⟩
theorem cv_X9_94 : Vw RX9 94 RX9 yX9_noteChange cX9_noteChange 1 none 0 := ⟨rfl, mw 386 (by decide +kernel) rfl, mw 388 (by decide +kernel) rfl, mw 0 (by decide +kernel) rfl, mw 61 (by decide +kernel) rfl, cd_X9_noteChange, by decide +kernel, by decide +kernel, by decide +kernel⟩
theorem cv_X9_108 : Vw RX9 108 RX9 yX9_noteValues cX9_noteValues 2 none 0 := ⟨rfl, mw 390 (by decide +kernel) rfl, mw 392 (by decide +kernel) rfl, mw 1 (by decide +kernel) rfl, mw 61 (by decide +kernel) rfl, cd_X9_noteValues, by decide +kernel, by decide +kernel, by decide +kernel⟩
theorem cv_L_18 : Vw RL 18 RX9 yX9_start cX9_start 4 (some .int) 2 := ⟨rfl, mw 394 (by decide +kernel) rfl, mw 395 (by decide +kernel) rfl, mw 396 (by decide +kernel) rfl, mw 61 (by decide +kernel) rfl, cd_X9_start, by decide +kernel, by decide +kernel, by decide +kernel⟩
theorem cv_X9_97 : Vw RX9 97 RX5 yX5_hasProcess cX5_hasProcess 2 (some .boolean) 1 := ⟨rfl, mw 398 (by decide +kernel) rfl, mw 399 (by decide +kernel) rfl, mw 400 (by decide +kernel) rfl, mw 62 (by decide +kernel) rfl, cd_X5_hasProcess, by decide +kernel, by decide +kernel, by decide +kernel⟩
theorem cv_X9_101 : Sw RX9 101 yX9_isValue cX9_isValue 1 (some .boolean) 1 := ⟨mw 402 (by decide +kernel) rfl, mw 403 (by decide +kernel) rfl, mw 61 (by decide +kernel) rfl, cd_X9_isValue, by decide +kernel, by decide +kernel, by decide +kernel⟩
theorem cv_L_23 : Vw RL 23 RX9 yX9_step cX9_step 3 (some .int) 2 := ⟨rfl, mw 405 (by decide +kernel) rfl, mw 406 (by decide +kernel) rfl, mw 407 (by decide +kernel) rfl, mw 61 (by decide +kernel) rfl, cd_X9_step, by decide +kernel, by decide +kernel, by decide +kernel⟩
theorem cv_X9_111 : Vw RX9 111 RX5 yX5_isFullAt cX5_isFullAt 2 (some .boolean) 1 := ⟨rfl, mw 409 (by decide +kernel) rfl, mw 410 (by decide +kernel) rfl, mw 411 (by decide +kernel) rfl, mw 62 (by decide +kernel) rfl, cd_X5_isFullAt, by decide +kernel, by decide +kernel, by decide +kernel⟩
theorem cv_X9_114 : Vw RX9 114 RX5 yX5_append cX5_append 8 none 4 := ⟨rfl, mw 413 (by decide +kernel) rfl, mw 414 (by decide +kernel) rfl, mw 415 (by decide +kernel) rfl, mw 62 (by decide +kernel) rfl, cd_X5_append, by decide +kernel, by decide +kernel, by decide +kernel⟩
theorem cv_X5_74 : Sw RX5 74 yX5_spotOf cX5_spotOf 2 (some .int) 2 := ⟨mw 417 (by decide +kernel) rfl, mw 418 (by decide +kernel) rfl, mw 62 (by decide +kernel) rfl, cd_X5_spotOf, by decide +kernel, by decide +kernel, by decide +kernel⟩
theorem cv_X5_78 : Vw RX5 78 RX5 yX5_clockOf cX5_clockOf 3 (some .int) 2 := ⟨rfl, mw 420 (by decide +kernel) rfl, mw 421 (by decide +kernel) rfl, mw 422 (by decide +kernel) rfl, mw 62 (by decide +kernel) rfl, cd_X5_clockOf, by decide +kernel, by decide +kernel, by decide +kernel⟩
theorem cv_X5_81 : Sw RX5 81 yX4_greater cX4_greater 3 (some .int) 2 := ⟨mw 424 (by decide +kernel) rfl, mw 425 (by decide +kernel) rfl, mw 72 (by decide +kernel) rfl, cd_X4_greater, by decide +kernel, by decide +kernel, by decide +kernel⟩
theorem cv_X4_10 : Sw RX4 10 yX4_notBelow cX4_notBelow 3 (some .int) 2 := ⟨mw 427 (by decide +kernel) rfl, mw 428 (by decide +kernel) rfl, mw 72 (by decide +kernel) rfl, cd_X4_notBelow, by decide +kernel, by decide +kernel, by decide +kernel⟩
theorem cv_X5_86 : Vw RX5 86 RX5 yX5_placeOf cX5_placeOf 2 (some .int) 1 := ⟨rfl, mw 431 (by decide +kernel) rfl, mw 432 (by decide +kernel) rfl, mw 433 (by decide +kernel) rfl, mw 62 (by decide +kernel) rfl, cd_X5_placeOf, by decide +kernel, by decide +kernel, by decide +kernel⟩
theorem cv_X5_90 : Sw RX5 90 yX4_one cX4_one 1 (some .int) 1 := ⟨mw 435 (by decide +kernel) rfl, mw 436 (by decide +kernel) rfl, mw 72 (by decide +kernel) rfl, cd_X4_one, by decide +kernel, by decide +kernel, by decide +kernel⟩
theorem cv_L_27 : Vw RL 27 RX9 yX9_send cX9_send 4 (some .int) 2 := ⟨rfl, mw 438 (by decide +kernel) rfl, mw 439 (by decide +kernel) rfl, mw 440 (by decide +kernel) rfl, mw 61 (by decide +kernel) rfl, cd_X9_send, by decide +kernel, by decide +kernel, by decide +kernel⟩
theorem cv_X9_124 : Vw RX9 124 RX5 yX5_openMessage cX5_openMessage 3 (some .int) 1 := ⟨rfl, mw 442 (by decide +kernel) rfl, mw 443 (by decide +kernel) rfl, mw 444 (by decide +kernel) rfl, mw 62 (by decide +kernel) rfl, cd_X5_openMessage, by decide +kernel, by decide +kernel, by decide +kernel⟩
theorem cv_L_31 : Vw RL 31 RX9 yX9_take cX9_take 4 (some .int) 3 := ⟨rfl, mw 446 (by decide +kernel) rfl, mw 447 (by decide +kernel) rfl, mw 448 (by decide +kernel) rfl, mw 61 (by decide +kernel) rfl, cd_X9_take, by decide +kernel, by decide +kernel, by decide +kernel⟩
theorem cv_X9_128 : Vw RX9 128 RX5 yX5_hasMessage cX5_hasMessage 2 (some .boolean) 1 := ⟨rfl, mw 450 (by decide +kernel) rfl, mw 451 (by decide +kernel) rfl, mw 452 (by decide +kernel) rfl, mw 62 (by decide +kernel) rfl, cd_X5_hasMessage, by decide +kernel, by decide +kernel, by decide +kernel⟩
theorem cv_X9_131 : Vw RX9 131 RX5 yX5_isTaken cX5_isTaken 2 (some .boolean) 1 := ⟨rfl, mw 454 (by decide +kernel) rfl, mw 455 (by decide +kernel) rfl, mw 456 (by decide +kernel) rfl, mw 62 (by decide +kernel) rfl, cd_X5_isTaken, by decide +kernel, by decide +kernel, by decide +kernel⟩
theorem cv_X9_134 : Vw RX9 134 RX5 yX5_closeMessage cX5_closeMessage 3 none 2 := ⟨rfl, mw 458 (by decide +kernel) rfl, mw 459 (by decide +kernel) rfl, mw 460 (by decide +kernel) rfl, mw 62 (by decide +kernel) rfl, cd_X5_closeMessage, by decide +kernel, by decide +kernel, by decide +kernel⟩
theorem cv_L_36 : Vw RL 36 RX9 yX9_back cX9_back 1 (some .int) 0 := ⟨rfl, mw 462 (by decide +kernel) rfl, mw 463 (by decide +kernel) rfl, mw 464 (by decide +kernel) rfl, mw 61 (by decide +kernel) rfl, cd_X9_back, by decide +kernel, by decide +kernel, by decide +kernel⟩
theorem cv_X9_141 : Vw RX9 141 RX5 yX5_removeLast cX5_removeLast 3 none 0 := ⟨rfl, mw 466 (by decide +kernel) rfl, mw 467 (by decide +kernel) rfl, mw 468 (by decide +kernel) rfl, mw 62 (by decide +kernel) rfl, cd_X5_removeLast, by decide +kernel, by decide +kernel, by decide +kernel⟩
theorem cv_L_41 : Vw RL 41 RX9 yX9_eventOf cX9_eventOf 5 (some .int) 3 := ⟨rfl, mw 470 (by decide +kernel) rfl, mw 471 (by decide +kernel) rfl, mw 472 (by decide +kernel) rfl, mw 61 (by decide +kernel) rfl, cd_X9_eventOf, by decide +kernel, by decide +kernel, by decide +kernel⟩
theorem cv_X9_144 : Vw RX9 144 RX5 yX5_hasEvent cX5_hasEvent 3 (some .boolean) 2 := ⟨rfl, mw 474 (by decide +kernel) rfl, mw 475 (by decide +kernel) rfl, mw 476 (by decide +kernel) rfl, mw 62 (by decide +kernel) rfl, cd_X5_hasEvent, by decide +kernel, by decide +kernel, by decide +kernel⟩
theorem cv_X5_70 : Vw RX5 70 RX5 yX5_hasProcess cX5_hasProcess 2 (some .boolean) 1 := ⟨rfl, mw 478 (by decide +kernel) rfl, mw 399 (by decide +kernel) rfl, mw 400 (by decide +kernel) rfl, mw 62 (by decide +kernel) rfl, cd_X5_hasProcess, by decide +kernel, by decide +kernel, by decide +kernel⟩
theorem cv_X9_148 : Sw RX9 148 yX5_spotOf cX5_spotOf 2 (some .int) 2 := ⟨mw 479 (by decide +kernel) rfl, mw 418 (by decide +kernel) rfl, mw 62 (by decide +kernel) rfl, cd_X5_spotOf, by decide +kernel, by decide +kernel, by decide +kernel⟩
theorem cv_L_45 : Vw RL 45 RX9 yX9_clock cX9_clock 4 (some .int) 3 := ⟨rfl, mw 480 (by decide +kernel) rfl, mw 481 (by decide +kernel) rfl, mw 482 (by decide +kernel) rfl, mw 61 (by decide +kernel) rfl, cd_X9_clock, by decide +kernel, by decide +kernel, by decide +kernel⟩
theorem cv_X9_164 : Vw RX9 164 RX5 yX5_clockOf cX5_clockOf 3 (some .int) 2 := ⟨rfl, mw 484 (by decide +kernel) rfl, mw 421 (by decide +kernel) rfl, mw 422 (by decide +kernel) rfl, mw 62 (by decide +kernel) rfl, cd_X5_clockOf, by decide +kernel, by decide +kernel, by decide +kernel⟩
theorem cv_X9_167 : Vw RX9 167 RX5 yX5_placeOf cX5_placeOf 2 (some .int) 1 := ⟨rfl, mw 485 (by decide +kernel) rfl, mw 432 (by decide +kernel) rfl, mw 433 (by decide +kernel) rfl, mw 62 (by decide +kernel) rfl, cd_X5_placeOf, by decide +kernel, by decide +kernel, by decide +kernel⟩
theorem cv_X9_170 : Sw RX9 170 yX4_at cX4_at 2 (some .int) 2 := ⟨mw 486 (by decide +kernel) rfl, mw 487 (by decide +kernel) rfl, mw 72 (by decide +kernel) rfl, cd_X4_at, by decide +kernel, by decide +kernel, by decide +kernel⟩
theorem cv_L_49 : Vw RL 49 RX9 yX9_ahead cX9_ahead 5 (some .int) 4 := ⟨rfl, mw 489 (by decide +kernel) rfl, mw 490 (by decide +kernel) rfl, mw 491 (by decide +kernel) rfl, mw 61 (by decide +kernel) rfl, cd_X9_ahead, by decide +kernel, by decide +kernel, by decide +kernel⟩
theorem cv_L_54 : Vw RL 54 RX9 yX9_message cX9_message 3 (some .int) 2 := ⟨rfl, mw 493 (by decide +kernel) rfl, mw 494 (by decide +kernel) rfl, mw 495 (by decide +kernel) rfl, mw 61 (by decide +kernel) rfl, cd_X9_message, by decide +kernel, by decide +kernel, by decide +kernel⟩
theorem cv_L_58 : Vw RL 58 RX9 yX9_cuts cX9_cuts 1 (some .int) 0 := ⟨rfl, mw 497 (by decide +kernel) rfl, mw 498 (by decide +kernel) rfl, mw 499 (by decide +kernel) rfl, mw 61 (by decide +kernel) rfl, cd_X9_cuts, by decide +kernel, by decide +kernel, by decide +kernel⟩
theorem cv_X9_187 : Vw RX9 187 RX9 yX9_freshLattice cX9_freshLattice 1 (some (.object "RunCuts$Lattice")) 0 := ⟨rfl, mw 501 (by decide +kernel) rfl, mw 503 (by decide +kernel) rfl, mw 2 (by decide +kernel) rfl, mw 61 (by decide +kernel) rfl, cd_X9_freshLattice, by decide +kernel, by decide +kernel, by decide +kernel⟩
theorem cv_X9_341 : Vw RX9 341 RX2 yX2_refresh cX2_refresh 3 none 0 := ⟨rfl, mw 505 (by decide +kernel) rfl, mw 506 (by decide +kernel) rfl, mw 507 (by decide +kernel) rfl, mw 64 (by decide +kernel) rfl, cd_X2_refresh, by decide +kernel, by decide +kernel, by decide +kernel⟩
theorem cv_X2_40 : Sw RX2 40 yJ7_fill_53178 cJ7_fill_53178 4 none 2 := ⟨mw 509 (by decide +kernel) rfl, mw 384 (by decide +kernel) rfl, mw 71 (by decide +kernel) rfl, cd_J7_fill_53178, by decide +kernel, by decide +kernel, by decide +kernel⟩
theorem cv_X2_46 : Vw RX2 46 RX5 yX5_holdsTogether cX5_holdsTogether 4 (some .boolean) 1 := ⟨rfl, mw 510 (by decide +kernel) rfl, mw 511 (by decide +kernel) rfl, mw 512 (by decide +kernel) rfl, mw 62 (by decide +kernel) rfl, cd_X5_holdsTogether, by decide +kernel, by decide +kernel, by decide +kernel⟩
theorem cv_X5_93 : Sw RX5 93 yX4_at cX4_at 2 (some .int) 2 := ⟨mw 514 (by decide +kernel) rfl, mw 487 (by decide +kernel) rfl, mw 72 (by decide +kernel) rfl, cd_X4_at, by decide +kernel, by decide +kernel, by decide +kernel⟩
theorem cv_X5_96 : Sw RX5 96 yX4_isWithin cX4_isWithin 2 (some .boolean) 2 := ⟨mw 515 (by decide +kernel) rfl, mw 516 (by decide +kernel) rfl, mw 72 (by decide +kernel) rfl, cd_X4_isWithin, by decide +kernel, by decide +kernel, by decide +kernel⟩
theorem cv_X2_52 : Sw RX2 52 yX4_slot cX4_slot 1 (some .int) 1 := ⟨mw 518 (by decide +kernel) rfl, mw 519 (by decide +kernel) rfl, mw 72 (by decide +kernel) rfl, cd_X4_slot, by decide +kernel, by decide +kernel, by decide +kernel⟩
theorem cv_X2_58 : Vw RX2 58 RX2 yX2_rowBehind cX2_rowBehind 5 (some .int) 1 := ⟨rfl, mw 521 (by decide +kernel) rfl, mw 523 (by decide +kernel) rfl, mw 3 (by decide +kernel) rfl, mw 64 (by decide +kernel) rfl, cd_X2_rowBehind, by decide +kernel, by decide +kernel, by decide +kernel⟩
theorem cv_X2_64 : Vw RX2 64 RX5 yX5_placeOf cX5_placeOf 2 (some .int) 1 := ⟨rfl, mw 525 (by decide +kernel) rfl, mw 432 (by decide +kernel) rfl, mw 433 (by decide +kernel) rfl, mw 62 (by decide +kernel) rfl, cd_X5_placeOf, by decide +kernel, by decide +kernel, by decide +kernel⟩
theorem cv_X2_67 : Sw RX2 67 yX4_at cX4_at 2 (some .int) 2 := ⟨mw 526 (by decide +kernel) rfl, mw 487 (by decide +kernel) rfl, mw 72 (by decide +kernel) rfl, cd_X4_at, by decide +kernel, by decide +kernel, by decide +kernel⟩
theorem cv_X2_74 : Sw RX2 74 yX4_one cX4_one 1 (some .int) 1 := ⟨mw 527 (by decide +kernel) rfl, mw 436 (by decide +kernel) rfl, mw 72 (by decide +kernel) rfl, cd_X4_one, by decide +kernel, by decide +kernel, by decide +kernel⟩
theorem cv_X2_77 : Sw RX2 77 yX4_without cX4_without 2 (some .int) 2 := ⟨mw 528 (by decide +kernel) rfl, mw 529 (by decide +kernel) rfl, mw 72 (by decide +kernel) rfl, cd_X4_without, by decide +kernel, by decide +kernel, by decide +kernel⟩
theorem cv_L_62 : Vw RL 62 RX9 yX9_cut cX9_cut 2 (some .int) 1 := ⟨rfl, mw 531 (by decide +kernel) rfl, mw 532 (by decide +kernel) rfl, mw 533 (by decide +kernel) rfl, mw 61 (by decide +kernel) rfl, cd_X9_cut, by decide +kernel, by decide +kernel, by decide +kernel⟩
theorem cv_X9_194 : Vw RX9 194 RX9 yX9_hasCut cX9_hasCut 2 (some .boolean) 1 := ⟨rfl, mw 535 (by decide +kernel) rfl, mw 537 (by decide +kernel) rfl, mw 4 (by decide +kernel) rfl, mw 61 (by decide +kernel) rfl, cd_X9_hasCut, by decide +kernel, by decide +kernel, by decide +kernel⟩
theorem cv_X9_200 : Sw RX9 200 yX4_decimal cX4_decimal 1 (some .int) 1 := ⟨mw 539 (by decide +kernel) rfl, mw 540 (by decide +kernel) rfl, mw 72 (by decide +kernel) rfl, cd_X4_decimal, by decide +kernel, by decide +kernel, by decide +kernel⟩
theorem cv_X4_14 : Sw RX4 14 yX4_at cX4_at 2 (some .int) 2 := ⟨mw 542 (by decide +kernel) rfl, mw 487 (by decide +kernel) rfl, mw 72 (by decide +kernel) rfl, cd_X4_at, by decide +kernel, by decide +kernel, by decide +kernel⟩
theorem cv_L_66 : Vw RL 66 RX9 yX9_which cX9_which 4 (some .int) 1 := ⟨rfl, mw 543 (by decide +kernel) rfl, mw 544 (by decide +kernel) rfl, mw 545 (by decide +kernel) rfl, mw 61 (by decide +kernel) rfl, cd_X9_which, by decide +kernel, by decide +kernel, by decide +kernel⟩
theorem cv_X9_203 : Vw RX9 203 RX5 yX5_rowOfDigits cX5_rowOfDigits 6 (some .int) 1 := ⟨rfl, mw 547 (by decide +kernel) rfl, mw 548 (by decide +kernel) rfl, mw 549 (by decide +kernel) rfl, mw 62 (by decide +kernel) rfl, cd_X5_rowOfDigits, by decide +kernel, by decide +kernel, by decide +kernel⟩
theorem cv_X9_206 : Vw RX9 206 RX2 yX2_numberOf cX2_numberOf 3 (some .int) 1 := ⟨rfl, mw 551 (by decide +kernel) rfl, mw 552 (by decide +kernel) rfl, mw 553 (by decide +kernel) rfl, mw 64 (by decide +kernel) rfl, cd_X2_numberOf, by decide +kernel, by decide +kernel, by decide +kernel⟩
theorem cv_L_70 : Vw RL 70 RX9 yX9_level cX9_level 2 (some .int) 1 := ⟨rfl, mw 555 (by decide +kernel) rfl, mw 556 (by decide +kernel) rfl, mw 557 (by decide +kernel) rfl, mw 61 (by decide +kernel) rfl, cd_X9_level, by decide +kernel, by decide +kernel, by decide +kernel⟩
theorem cv_X9_209 : Sw RX9 209 yX4_sum cX4_sum 1 (some .int) 1 := ⟨mw 559 (by decide +kernel) rfl, mw 560 (by decide +kernel) rfl, mw 72 (by decide +kernel) rfl, cd_X4_sum, by decide +kernel, by decide +kernel, by decide +kernel⟩
theorem cv_L_74 : Vw RL 74 RX9 yX9_next cX9_next 6 (some .int) 2 := ⟨rfl, mw 562 (by decide +kernel) rfl, mw 563 (by decide +kernel) rfl, mw 564 (by decide +kernel) rfl, mw 61 (by decide +kernel) rfl, cd_X9_next, by decide +kernel, by decide +kernel, by decide +kernel⟩
theorem cv_X9_212 : Vw RX9 212 RX2 yX2_successor cX2_successor 4 (some .int) 2 := ⟨rfl, mw 566 (by decide +kernel) rfl, mw 567 (by decide +kernel) rfl, mw 568 (by decide +kernel) rfl, mw 64 (by decide +kernel) rfl, cd_X2_successor, by decide +kernel, by decide +kernel, by decide +kernel⟩
theorem cv_L_78 : Vw RL 78 RX9 yX9_meet cX9_meet 3 (some .int) 2 := ⟨rfl, mw 570 (by decide +kernel) rfl, mw 571 (by decide +kernel) rfl, mw 572 (by decide +kernel) rfl, mw 61 (by decide +kernel) rfl, cd_X9_meet, by decide +kernel, by decide +kernel, by decide +kernel⟩
theorem cv_X9_215 : Sw RX9 215 yX4_lesser cX4_lesser 3 (some .int) 2 := ⟨mw 574 (by decide +kernel) rfl, mw 575 (by decide +kernel) rfl, mw 72 (by decide +kernel) rfl, cd_X4_lesser, by decide +kernel, by decide +kernel, by decide +kernel⟩
theorem cv_L_82 : Vw RL 82 RX9 yX9_join cX9_join 3 (some .int) 2 := ⟨rfl, mw 577 (by decide +kernel) rfl, mw 578 (by decide +kernel) rfl, mw 579 (by decide +kernel) rfl, mw 61 (by decide +kernel) rfl, cd_X9_join, by decide +kernel, by decide +kernel, by decide +kernel⟩
theorem cv_X9_218 : Sw RX9 218 yX4_greater cX4_greater 3 (some .int) 2 := ⟨mw 581 (by decide +kernel) rfl, mw 425 (by decide +kernel) rfl, mw 72 (by decide +kernel) rfl, cd_X4_greater, by decide +kernel, by decide +kernel, by decide +kernel⟩
theorem cv_L_86 : Vw RL 86 RX9 yX9_under cX9_under 2 (some .int) 1 := ⟨rfl, mw 582 (by decide +kernel) rfl, mw 583 (by decide +kernel) rfl, mw 584 (by decide +kernel) rfl, mw 61 (by decide +kernel) rfl, cd_X9_under, by decide +kernel, by decide +kernel, by decide +kernel⟩
theorem cv_X9_221 : Vw RX9 221 RX5 yX5_underWay cX5_underWay 6 (some .int) 1 := ⟨rfl, mw 586 (by decide +kernel) rfl, mw 587 (by decide +kernel) rfl, mw 588 (by decide +kernel) rfl, mw 62 (by decide +kernel) rfl, cd_X5_underWay, by decide +kernel, by decide +kernel, by decide +kernel⟩
theorem cv_L_90 : Vw RL 90 RX9 yX9_value cX9_value 3 (some .int) 2 := ⟨rfl, mw 590 (by decide +kernel) rfl, mw 591 (by decide +kernel) rfl, mw 592 (by decide +kernel) rfl, mw 61 (by decide +kernel) rfl, cd_X9_value, by decide +kernel, by decide +kernel, by decide +kernel⟩
theorem cv_X9_224 : Vw RX9 224 RX5 yX5_valueIn cX5_valueIn 4 (some .int) 2 := ⟨rfl, mw 594 (by decide +kernel) rfl, mw 595 (by decide +kernel) rfl, mw 596 (by decide +kernel) rfl, mw 62 (by decide +kernel) rfl, cd_X5_valueIn, by decide +kernel, by decide +kernel, by decide +kernel⟩
theorem cv_L_94 : Vw RL 94 RX9 yX9_ways cX9_ways 2 (some .long) 1 := ⟨rfl, mw 598 (by decide +kernel) rfl, mw 599 (by decide +kernel) rfl, mw 600 (by decide +kernel) rfl, mw 61 (by decide +kernel) rfl, cd_X9_ways, by decide +kernel, by decide +kernel, by decide +kernel⟩
theorem cv_X9_227 : Vw RX9 227 RX2 yX2_waysBy cX2_waysBy 2 (some .long) 1 := ⟨rfl, mw 602 (by decide +kernel) rfl, mw 603 (by decide +kernel) rfl, mw 604 (by decide +kernel) rfl, mw 64 (by decide +kernel) rfl, cd_X2_waysBy, by decide +kernel, by decide +kernel, by decide +kernel⟩
theorem cv_X2_80 : Vw RX2 80 RX2 yX2_countWays cX2_countWays 6 none 0 := ⟨rfl, mw 606 (by decide +kernel) rfl, mw 608 (by decide +kernel) rfl, mw 5 (by decide +kernel) rfl, mw 64 (by decide +kernel) rfl, cd_X2_countWays, by decide +kernel, by decide +kernel, by decide +kernel⟩
theorem cv_X2_83 : Sw RX2 83 yJ7_fill_d0a16 cJ7_fill_d0a16 5 none 2 := ⟨mw 610 (by decide +kernel) rfl, mw 611 (by decide +kernel) rfl, mw 71 (by decide +kernel) rfl, cd_J7_fill_d0a16, by decide +kernel, by decide +kernel, by decide +kernel⟩
theorem cv_X2_86 : Vw RX2 86 RX2 yX2_successor cX2_successor 4 (some .int) 2 := ⟨rfl, mw 613 (by decide +kernel) rfl, mw 567 (by decide +kernel) rfl, mw 568 (by decide +kernel) rfl, mw 64 (by decide +kernel) rfl, cd_X2_successor, by decide +kernel, by decide +kernel, by decide +kernel⟩
theorem cv_L_99 : Vw RL 99 RX9 yX9_read cX9_read 4 (some .int) 1 := ⟨rfl, mw 615 (by decide +kernel) rfl, mw 616 (by decide +kernel) rfl, mw 617 (by decide +kernel) rfl, mw 61 (by decide +kernel) rfl, cd_X9_read, by decide +kernel, by decide +kernel, by decide +kernel⟩
theorem cv_X9_233 : Sw RX9 233 yX9_isCondition cX9_isCondition 1 (some .boolean) 1 := ⟨mw 619 (by decide +kernel) rfl, mw 620 (by decide +kernel) rfl, mw 61 (by decide +kernel) rfl, cd_X9_isCondition, by decide +kernel, by decide +kernel, by decide +kernel⟩
theorem cv_X9_236 : Vw RX9 236 RX1 yX1_begin cX1_begin 1 none 0 := ⟨rfl, mw 622 (by decide +kernel) rfl, mw 623 (by decide +kernel) rfl, mw 624 (by decide +kernel) rfl, mw 65 (by decide +kernel) rfl, cd_X1_begin, by decide +kernel, by decide +kernel, by decide +kernel⟩
theorem cv_X1_46 : Vw RX1 46 RX1 yX1_readAll cX1_readAll 3 (some .boolean) 1 := ⟨rfl, mw 630 (by decide +kernel) rfl, mw 632 (by decide +kernel) rfl, mw 7 (by decide +kernel) rfl, mw 65 (by decide +kernel) rfl, cd_X1_readAll, by decide +kernel, by decide +kernel, by decide +kernel⟩
theorem cv_X1_57 : Vw RX1 57 RX1 yX1_readTest cX1_readTest 3 (some .boolean) 1 := ⟨rfl, mw 634 (by decide +kernel) rfl, mw 636 (by decide +kernel) rfl, mw 8 (by decide +kernel) rfl, mw 65 (by decide +kernel) rfl, cd_X1_readTest, by decide +kernel, by decide +kernel, by decide +kernel⟩
theorem cv_X1_60 : Vw RX1 60 RX8 yX8_peek cX8_peek 1 (some .int) 0 := ⟨rfl, mw 638 (by decide +kernel) rfl, mw 639 (by decide +kernel) rfl, mw 640 (by decide +kernel) rfl, mw 63 (by decide +kernel) rfl, cd_X8_peek, by decide +kernel, by decide +kernel, by decide +kernel⟩
theorem cv_X1_64 : Vw RX1 64 RX1 yX1_readComparison cX1_readComparison 2 (some .boolean) 0 := ⟨rfl, mw 642 (by decide +kernel) rfl, mw 644 (by decide +kernel) rfl, mw 9 (by decide +kernel) rfl, mw 65 (by decide +kernel) rfl, cd_X1_readComparison, by decide +kernel, by decide +kernel, by decide +kernel⟩
theorem cv_X1_71 : Vw RX1 71 RX1 yX1_readSum cX1_readSum 3 (some .boolean) 0 := ⟨rfl, mw 646 (by decide +kernel) rfl, mw 648 (by decide +kernel) rfl, mw 10 (by decide +kernel) rfl, mw 65 (by decide +kernel) rfl, cd_X1_readSum, by decide +kernel, by decide +kernel, by decide +kernel⟩
theorem cv_X1_74 : Vw RX1 74 RX1 yX1_readUnit cX1_readUnit 3 (some .boolean) 0 := ⟨rfl, mw 650 (by decide +kernel) rfl, mw 652 (by decide +kernel) rfl, mw 11 (by decide +kernel) rfl, mw 65 (by decide +kernel) rfl, cd_X1_readUnit, by decide +kernel, by decide +kernel, by decide +kernel⟩
theorem cv_X1_50 : Vw RX1 50 RX8 yX8_accept cX8_accept 2 (some .boolean) 1 := ⟨rfl, mw 654 (by decide +kernel) rfl, mw 655 (by decide +kernel) rfl, mw 656 (by decide +kernel) rfl, mw 63 (by decide +kernel) rfl, cd_X8_accept, by decide +kernel, by decide +kernel, by decide +kernel⟩
theorem cv_X1_82 : Vw RX1 82 RX8 yX8_figureBelow cX8_figureBelow 3 (some .int) 1 := ⟨rfl, mw 658 (by decide +kernel) rfl, mw 659 (by decide +kernel) rfl, mw 660 (by decide +kernel) rfl, mw 63 (by decide +kernel) rfl, cd_X8_figureBelow, by decide +kernel, by decide +kernel, by decide +kernel⟩
theorem cv_X1_86 : Vw RX1 86 RX8 yX8_number cX8_number 4 (some .int) 0 := ⟨rfl, mw 662 (by decide +kernel) rfl, mw 663 (by decide +kernel) rfl, mw 664 (by decide +kernel) rfl, mw 63 (by decide +kernel) rfl, cd_X8_number, by decide +kernel, by decide +kernel, by decide +kernel⟩
theorem cv_X1_53 : Vw RX1 53 RX1 yX1_add cX1_add 2 none 1 := ⟨rfl, mw 666 (by decide +kernel) rfl, mw 668 (by decide +kernel) rfl, mw 12 (by decide +kernel) rfl, mw 65 (by decide +kernel) rfl, cd_X1_add, by decide +kernel, by decide +kernel, by decide +kernel⟩
theorem cv_X1_68 : Vw RX1 68 RX1 yX1_readCondition cX1_readCondition 3 (some .boolean) 1 := ⟨rfl, mw 670 (by decide +kernel) rfl, mw 628 (by decide +kernel) rfl, mw 6 (by decide +kernel) rfl, mw 65 (by decide +kernel) rfl, cd_X1_readCondition, by decide +kernel, by decide +kernel, by decide +kernel⟩
theorem cv_X9_242 : Vw RX9 242 RX8 yX8_isAtEnd cX8_isAtEnd 1 (some .boolean) 0 := ⟨rfl, mw 671 (by decide +kernel) rfl, mw 672 (by decide +kernel) rfl, mw 673 (by decide +kernel) rfl, mw 63 (by decide +kernel) rfl, cd_X8_isAtEnd, by decide +kernel, by decide +kernel, by decide +kernel⟩
theorem cv_X9_249 : Vw RX9 249 RX8 yX8_clear cX8_clear 1 none 0 := ⟨rfl, mw 675 (by decide +kernel) rfl, mw 676 (by decide +kernel) rfl, mw 677 (by decide +kernel) rfl, mw 63 (by decide +kernel) rfl, cd_X8_clear, by decide +kernel, by decide +kernel, by decide +kernel⟩
theorem cv_X9_252 : Vw RX9 252 RX1 yX1_handTo cX1_handTo 2 none 1 := ⟨rfl, mw 679 (by decide +kernel) rfl, mw 680 (by decide +kernel) rfl, mw 681 (by decide +kernel) rfl, mw 65 (by decide +kernel) rfl, cd_X1_handTo, by decide +kernel, by decide +kernel, by decide +kernel⟩
theorem cv_L_103 : Vw RL 103 RX9 yX9_holds cX9_holds 4 (some .int) 2 := ⟨rfl, mw 686 (by decide +kernel) rfl, mw 687 (by decide +kernel) rfl, mw 688 (by decide +kernel) rfl, mw 61 (by decide +kernel) rfl, cd_X9_holds, by decide +kernel, by decide +kernel, by decide +kernel⟩
theorem cv_X9_259 : Vw RX9 259 RX9 yX9_lackOf cX9_lackOf 3 (some .int) 2 := ⟨rfl, mw 690 (by decide +kernel) rfl, mw 692 (by decide +kernel) rfl, mw 13 (by decide +kernel) rfl, mw 61 (by decide +kernel) rfl, cd_X9_lackOf, by decide +kernel, by decide +kernel, by decide +kernel⟩
theorem cv_X9_263 : Vw RX9 263 RX9 yX9_freshSurvey cX9_freshSurvey 2 (some (.object "RunCuts$Survey")) 1 := ⟨rfl, mw 694 (by decide +kernel) rfl, mw 696 (by decide +kernel) rfl, mw 14 (by decide +kernel) rfl, mw 61 (by decide +kernel) rfl, cd_X9_freshSurvey, by decide +kernel, by decide +kernel, by decide +kernel⟩
theorem cv_X9_344 : Vw RX9 344 RX7 yX7_refresh cX7_refresh 1 none 0 := ⟨rfl, mw 698 (by decide +kernel) rfl, mw 699 (by decide +kernel) rfl, mw 700 (by decide +kernel) rfl, mw 68 (by decide +kernel) rfl, cd_X7_refresh, by decide +kernel, by decide +kernel, by decide +kernel⟩
theorem cv_X7_50 : Vw RX7 50 RX7 yX7_flagMet cX7_flagMet 3 none 0 := ⟨rfl, mw 702 (by decide +kernel) rfl, mw 704 (by decide +kernel) rfl, mw 15 (by decide +kernel) rfl, mw 68 (by decide +kernel) rfl, cd_X7_flagMet, by decide +kernel, by decide +kernel, by decide +kernel⟩
theorem cv_X7_70 : Vw RX7 70 RX0 yX0_isMet cX0_isMet 8 (some .boolean) 3 := ⟨rfl, mw 706 (by decide +kernel) rfl, mw 707 (by decide +kernel) rfl, mw 708 (by decide +kernel) rfl, mw 67 (by decide +kernel) rfl, cd_X0_isMet, by decide +kernel, by decide +kernel, by decide +kernel⟩
theorem cv_X0_29 : Vw RX0 29 RX5 yX5_underWay cX5_underWay 6 (some .int) 1 := ⟨rfl, mw 710 (by decide +kernel) rfl, mw 587 (by decide +kernel) rfl, mw 588 (by decide +kernel) rfl, mw 62 (by decide +kernel) rfl, cd_X5_underWay, by decide +kernel, by decide +kernel, by decide +kernel⟩
theorem cv_X0_35 : Sw RX0 35 yJ6_bitCount_0f7a4 cJ6_bitCount_0f7a4 1 (some .int) 1 := ⟨mw 711 (by decide +kernel) rfl, mw 712 (by decide +kernel) rfl, mw 75 (by decide +kernel) rfl, cd_J6_bitCount_0f7a4, by decide +kernel, by decide +kernel, by decide +kernel⟩
theorem cv_X0_40 : Sw RX0 40 yX0_unit cX0_unit 4 (some .int) 4 := ⟨mw 717 (by decide +kernel) rfl, mw 718 (by decide +kernel) rfl, mw 67 (by decide +kernel) rfl, cd_X0_unit, by decide +kernel, by decide +kernel, by decide +kernel⟩
theorem cv_X0_48 : Vw RX0 48 RX5 yX5_valueIn cX5_valueIn 4 (some .int) 2 := ⟨rfl, mw 720 (by decide +kernel) rfl, mw 595 (by decide +kernel) rfl, mw 596 (by decide +kernel) rfl, mw 62 (by decide +kernel) rfl, cd_X5_valueIn, by decide +kernel, by decide +kernel, by decide +kernel⟩
theorem cv_X0_52 : Vw RX0 52 RX5 yX5_placeOf cX5_placeOf 2 (some .int) 1 := ⟨rfl, mw 721 (by decide +kernel) rfl, mw 432 (by decide +kernel) rfl, mw 433 (by decide +kernel) rfl, mw 62 (by decide +kernel) rfl, cd_X5_placeOf, by decide +kernel, by decide +kernel, by decide +kernel⟩
theorem cv_X0_55 : Sw RX0 55 yX4_at cX4_at 2 (some .int) 2 := ⟨mw 722 (by decide +kernel) rfl, mw 487 (by decide +kernel) rfl, mw 72 (by decide +kernel) rfl, cd_X4_at, by decide +kernel, by decide +kernel, by decide +kernel⟩
theorem cv_X0_44 : Sw RX0 44 yX0_combined cX0_combined 3 (some .int) 3 := ⟨mw 723 (by decide +kernel) rfl, mw 724 (by decide +kernel) rfl, mw 67 (by decide +kernel) rfl, cd_X0_combined, by decide +kernel, by decide +kernel, by decide +kernel⟩
theorem cv_X9_267 : Vw RX9 267 RX7 yX7_meetsAt cX7_meetsAt 2 (some .int) 1 := ⟨rfl, mw 726 (by decide +kernel) rfl, mw 727 (by decide +kernel) rfl, mw 728 (by decide +kernel) rfl, mw 68 (by decide +kernel) rfl, cd_X7_meetsAt, by decide +kernel, by decide +kernel, by decide +kernel⟩
theorem cv_L_107 : Vw RL 107 RX9 yX9_possible cX9_possible 4 (some .int) 2 := ⟨rfl, mw 730 (by decide +kernel) rfl, mw 731 (by decide +kernel) rfl, mw 732 (by decide +kernel) rfl, mw 61 (by decide +kernel) rfl, cd_X9_possible, by decide +kernel, by decide +kernel, by decide +kernel⟩
theorem cv_X9_270 : Vw RX9 270 RX7 yX7_pickMet cX7_pickMet 2 (some .int) 1 := ⟨rfl, mw 734 (by decide +kernel) rfl, mw 735 (by decide +kernel) rfl, mw 736 (by decide +kernel) rfl, mw 68 (by decide +kernel) rfl, cd_X7_pickMet, by decide +kernel, by decide +kernel, by decide +kernel⟩
theorem cv_X7_121 : Vw RX7 121 RX7 yX7_flaggedAt cX7_flaggedAt 5 (some .int) 2 := ⟨rfl, mw 738 (by decide +kernel) rfl, mw 740 (by decide +kernel) rfl, mw 16 (by decide +kernel) rfl, mw 68 (by decide +kernel) rfl, cd_X7_flaggedAt, by decide +kernel, by decide +kernel, by decide +kernel⟩
theorem cv_L_111 : Vw RL 111 RX9 yX9_sure cX9_sure 3 (some .int) 1 := ⟨rfl, mw 742 (by decide +kernel) rfl, mw 743 (by decide +kernel) rfl, mw 744 (by decide +kernel) rfl, mw 61 (by decide +kernel) rfl, cd_X9_sure, by decide +kernel, by decide +kernel, by decide +kernel⟩
theorem cv_X9_273 : Vw RX9 273 RX7 yX7_hasWayRound cX7_hasWayRound 1 (some .boolean) 0 := ⟨rfl, mw 746 (by decide +kernel) rfl, mw 747 (by decide +kernel) rfl, mw 748 (by decide +kernel) rfl, mw 68 (by decide +kernel) rfl, cd_X7_hasWayRound, by decide +kernel, by decide +kernel, by decide +kernel⟩
theorem cv_X7_127 : Vw RX7 127 RX7 yX7_needPassable cX7_needPassable 1 none 0 := ⟨rfl, mw 750 (by decide +kernel) rfl, mw 752 (by decide +kernel) rfl, mw 17 (by decide +kernel) rfl, mw 68 (by decide +kernel) rfl, cd_X7_needPassable, by decide +kernel, by decide +kernel, by decide +kernel⟩
theorem cv_X7_53 : Vw RX7 53 RX7 yX7_flagPassable cX7_flagPassable 3 none 0 := ⟨rfl, mw 754 (by decide +kernel) rfl, mw 756 (by decide +kernel) rfl, mw 18 (by decide +kernel) rfl, mw 68 (by decide +kernel) rfl, cd_X7_flagPassable, by decide +kernel, by decide +kernel, by decide +kernel⟩
theorem cv_X7_76 : Vw RX7 76 RX7 yX7_passableStep cX7_passableStep 4 (some .int) 1 := ⟨rfl, mw 758 (by decide +kernel) rfl, mw 760 (by decide +kernel) rfl, mw 19 (by decide +kernel) rfl, mw 68 (by decide +kernel) rfl, cd_X7_passableStep, by decide +kernel, by decide +kernel, by decide +kernel⟩
theorem cv_X7_85 : Vw RX7 85 RX2 yX2_successor cX2_successor 4 (some .int) 2 := ⟨rfl, mw 762 (by decide +kernel) rfl, mw 567 (by decide +kernel) rfl, mw 568 (by decide +kernel) rfl, mw 64 (by decide +kernel) rfl, cd_X2_successor, by decide +kernel, by decide +kernel, by decide +kernel⟩
theorem cv_L_115 : Vw RL 115 RX9 yX9_around cX9_around 4 (some .int) 2 := ⟨rfl, mw 763 (by decide +kernel) rfl, mw 764 (by decide +kernel) rfl, mw 765 (by decide +kernel) rfl, mw 61 (by decide +kernel) rfl, cd_X9_around, by decide +kernel, by decide +kernel, by decide +kernel⟩
theorem cv_X9_276 : Vw RX9 276 RX7 yX7_stepRound cX7_stepRound 5 (some .int) 1 := ⟨rfl, mw 767 (by decide +kernel) rfl, mw 768 (by decide +kernel) rfl, mw 769 (by decide +kernel) rfl, mw 68 (by decide +kernel) rfl, cd_X7_stepRound, by decide +kernel, by decide +kernel, by decide +kernel⟩
theorem cv_X7_130 : Vw RX7 130 RX7 yX7_hasWayRound cX7_hasWayRound 1 (some .boolean) 0 := ⟨rfl, mw 771 (by decide +kernel) rfl, mw 747 (by decide +kernel) rfl, mw 748 (by decide +kernel) rfl, mw 68 (by decide +kernel) rfl, cd_X7_hasWayRound, by decide +kernel, by decide +kernel, by decide +kernel⟩
theorem cv_L_119 : Vw RL 119 RX9 yX9_slice cX9_slice 4 (some .int) 2 := ⟨rfl, mw 772 (by decide +kernel) rfl, mw 773 (by decide +kernel) rfl, mw 774 (by decide +kernel) rfl, mw 61 (by decide +kernel) rfl, cd_X9_slice, by decide +kernel, by decide +kernel, by decide +kernel⟩
theorem cv_X9_279 : Vw RX9 279 RX7 yX7_pickSliced cX7_pickSliced 2 (some .int) 1 := ⟨rfl, mw 776 (by decide +kernel) rfl, mw 777 (by decide +kernel) rfl, mw 778 (by decide +kernel) rfl, mw 68 (by decide +kernel) rfl, cd_X7_pickSliced, by decide +kernel, by decide +kernel, by decide +kernel⟩
theorem cv_X7_124 : Vw RX7 124 RX7 yX7_needSlice cX7_needSlice 1 none 0 := ⟨rfl, mw 780 (by decide +kernel) rfl, mw 782 (by decide +kernel) rfl, mw 20 (by decide +kernel) rfl, mw 68 (by decide +kernel) rfl, cd_X7_needSlice, by decide +kernel, by decide +kernel, by decide +kernel⟩
theorem cv_X7_56 : Vw RX7 56 RX7 yX7_gatherLeastRows cX7_gatherLeastRows 4 none 0 := ⟨rfl, mw 784 (by decide +kernel) rfl, mw 786 (by decide +kernel) rfl, mw 21 (by decide +kernel) rfl, mw 68 (by decide +kernel) rfl, cd_X7_gatherLeastRows, by decide +kernel, by decide +kernel, by decide +kernel⟩
theorem cv_X7_89 : Sw RX7 89 yJ7_fill_53178 cJ7_fill_53178 4 none 2 := ⟨mw 788 (by decide +kernel) rfl, mw 384 (by decide +kernel) rfl, mw 71 (by decide +kernel) rfl, cd_J7_fill_53178, by decide +kernel, by decide +kernel, by decide +kernel⟩
theorem cv_X7_95 : Vw RX7 95 RX7 yX7_gather cX7_gather 4 none 1 := ⟨rfl, mw 789 (by decide +kernel) rfl, mw 791 (by decide +kernel) rfl, mw 22 (by decide +kernel) rfl, mw 68 (by decide +kernel) rfl, cd_X7_gather, by decide +kernel, by decide +kernel, by decide +kernel⟩
theorem cv_X7_102 : Vw RX7 102 RX5 yX5_placeOf cX5_placeOf 2 (some .int) 1 := ⟨rfl, mw 793 (by decide +kernel) rfl, mw 432 (by decide +kernel) rfl, mw 433 (by decide +kernel) rfl, mw 62 (by decide +kernel) rfl, cd_X5_placeOf, by decide +kernel, by decide +kernel, by decide +kernel⟩
theorem cv_X7_105 : Sw RX7 105 yX4_at cX4_at 2 (some .int) 2 := ⟨mw 794 (by decide +kernel) rfl, mw 487 (by decide +kernel) rfl, mw 72 (by decide +kernel) rfl, cd_X4_at, by decide +kernel, by decide +kernel, by decide +kernel⟩
theorem cv_X7_99 : Sw RX7 99 yX7_meetOf cX7_meetOf 2 (some .int) 2 := ⟨mw 795 (by decide +kernel) rfl, mw 796 (by decide +kernel) rfl, mw 68 (by decide +kernel) rfl, cd_X7_meetOf, by decide +kernel, by decide +kernel, by decide +kernel⟩
theorem cv_X7_110 : Sw RX7 110 yX4_lesser cX4_lesser 3 (some .int) 2 := ⟨mw 798 (by decide +kernel) rfl, mw 575 (by decide +kernel) rfl, mw 72 (by decide +kernel) rfl, cd_X4_lesser, by decide +kernel, by decide +kernel, by decide +kernel⟩
theorem cv_X7_59 : Vw RX7 59 RX7 yX7_flagSliced cX7_flagSliced 2 none 0 := ⟨rfl, mw 799 (by decide +kernel) rfl, mw 801 (by decide +kernel) rfl, mw 23 (by decide +kernel) rfl, mw 68 (by decide +kernel) rfl, cd_X7_flagSliced, by decide +kernel, by decide +kernel, by decide +kernel⟩
theorem cv_X7_113 : Vw RX7 113 RX7 yX7_isJoinOfLeast cX7_isJoinOfLeast 4 (some .boolean) 1 := ⟨rfl, mw 803 (by decide +kernel) rfl, mw 805 (by decide +kernel) rfl, mw 24 (by decide +kernel) rfl, mw 68 (by decide +kernel) rfl, cd_X7_isJoinOfLeast, by decide +kernel, by decide +kernel, by decide +kernel⟩
theorem cv_X7_117 : Sw RX7 117 yX4_isWithin cX4_isWithin 2 (some .boolean) 2 := ⟨mw 807 (by decide +kernel) rfl, mw 516 (by decide +kernel) rfl, mw 72 (by decide +kernel) rfl, cd_X4_isWithin, by decide +kernel, by decide +kernel, by decide +kernel⟩
theorem cv_L_123 : Vw RL 123 RX9 yX9_regular cX9_regular 3 (some .int) 1 := ⟨rfl, mw 808 (by decide +kernel) rfl, mw 809 (by decide +kernel) rfl, mw 810 (by decide +kernel) rfl, mw 61 (by decide +kernel) rfl, cd_X9_regular, by decide +kernel, by decide +kernel, by decide +kernel⟩
theorem cv_X9_282 : Vw RX9 282 RX7 yX7_isExact cX7_isExact 1 (some .boolean) 0 := ⟨rfl, mw 812 (by decide +kernel) rfl, mw 813 (by decide +kernel) rfl, mw 814 (by decide +kernel) rfl, mw 68 (by decide +kernel) rfl, cd_X7_isExact, by decide +kernel, by decide +kernel, by decide +kernel⟩
theorem cv_L_127 : Vw RL 127 RX9 yX9_least cX9_least 5 (some .int) 3 := ⟨rfl, mw 816 (by decide +kernel) rfl, mw 817 (by decide +kernel) rfl, mw 818 (by decide +kernel) rfl, mw 61 (by decide +kernel) rfl, cd_X9_least, by decide +kernel, by decide +kernel, by decide +kernel⟩
theorem cv_X9_285 : Vw RX9 285 RX7 yX7_leastWith cX7_leastWith 4 (some .int) 2 := ⟨rfl, mw 820 (by decide +kernel) rfl, mw 821 (by decide +kernel) rfl, mw 822 (by decide +kernel) rfl, mw 68 (by decide +kernel) rfl, cd_X7_leastWith, by decide +kernel, by decide +kernel, by decide +kernel⟩
theorem cv_X7_137 : Vw RX7 137 RX2 yX2_numberOf cX2_numberOf 3 (some .int) 1 := ⟨rfl, mw 824 (by decide +kernel) rfl, mw 552 (by decide +kernel) rfl, mw 553 (by decide +kernel) rfl, mw 64 (by decide +kernel) rfl, cd_X2_numberOf, by decide +kernel, by decide +kernel, by decide +kernel⟩
theorem cv_L_131 : Vw RL 131 RX9 yX9_forget cX9_forget 3 (some .int) 1 := ⟨rfl, mw 825 (by decide +kernel) rfl, mw 826 (by decide +kernel) rfl, mw 827 (by decide +kernel) rfl, mw 61 (by decide +kernel) rfl, cd_X9_forget, by decide +kernel, by decide +kernel, by decide +kernel⟩
theorem cv_L_135 : Vw RL 135 RX9 yX9_mark cX9_mark 6 (some .int) 3 := ⟨rfl, mw 829 (by decide +kernel) rfl, mw 830 (by decide +kernel) rfl, mw 831 (by decide +kernel) rfl, mw 61 (by decide +kernel) rfl, cd_X9_mark, by decide +kernel, by decide +kernel, by decide +kernel⟩
theorem cv_L_139 : Vw RL 139 RX9 yX9_line cX9_line 3 (some .int) 0 := ⟨rfl, mw 833 (by decide +kernel) rfl, mw 834 (by decide +kernel) rfl, mw 835 (by decide +kernel) rfl, mw 61 (by decide +kernel) rfl, cd_X9_line, by decide +kernel, by decide +kernel, by decide +kernel⟩
theorem cv_X9_288 : Vw RX9 288 RX5 yX5_endsInMarks cX5_endsInMarks 4 (some .boolean) 1 := ⟨rfl, mw 837 (by decide +kernel) rfl, mw 838 (by decide +kernel) rfl, mw 839 (by decide +kernel) rfl, mw 62 (by decide +kernel) rfl, cd_X5_endsInMarks, by decide +kernel, by decide +kernel, by decide +kernel⟩
theorem cv_L_143 : Vw RL 143 RX9 yX9_feed cX9_feed 2 (some .int) 1 := ⟨rfl, mw 841 (by decide +kernel) rfl, mw 842 (by decide +kernel) rfl, mw 843 (by decide +kernel) rfl, mw 61 (by decide +kernel) rfl, cd_X9_feed, by decide +kernel, by decide +kernel, by decide +kernel⟩
theorem cv_X9_294 : Vw RX9 294 RX8 yX8_append cX8_append 2 none 1 := ⟨rfl, mw 845 (by decide +kernel) rfl, mw 846 (by decide +kernel) rfl, mw 847 (by decide +kernel) rfl, mw 63 (by decide +kernel) rfl, cd_X8_append, by decide +kernel, by decide +kernel, by decide +kernel⟩
theorem cv_L_147 : Vw RL 147 RX9 yX9_wipe cX9_wipe 2 (some .int) 0 := ⟨rfl, mw 849 (by decide +kernel) rfl, mw 850 (by decide +kernel) rfl, mw 851 (by decide +kernel) rfl, mw 61 (by decide +kernel) rfl, cd_X9_wipe, by decide +kernel, by decide +kernel, by decide +kernel⟩
theorem cv_L_151 : Vw RL 151 RX9 yX9_tell cX9_tell 2 (some .int) 0 := ⟨rfl, mw 853 (by decide +kernel) rfl, mw 854 (by decide +kernel) rfl, mw 855 (by decide +kernel) rfl, mw 61 (by decide +kernel) rfl, cd_X9_tell, by decide +kernel, by decide +kernel, by decide +kernel⟩
theorem cv_X9_296 : Vw RX9 296 RX6 yX6_readsWhole cX6_readsWhole 2 (some .boolean) 0 := ⟨rfl, mw 857 (by decide +kernel) rfl, mw 858 (by decide +kernel) rfl, mw 859 (by decide +kernel) rfl, mw 66 (by decide +kernel) rfl, cd_X6_readsWhole, by decide +kernel, by decide +kernel, by decide +kernel⟩
theorem cv_X6_37 : Vw RX6 37 RX6 yX6_readStatement cX6_readStatement 1 (some .boolean) 0 := ⟨rfl, mw 861 (by decide +kernel) rfl, mw 862 (by decide +kernel) rfl, mw 863 (by decide +kernel) rfl, mw 66 (by decide +kernel) rfl, cd_X6_readStatement, by decide +kernel, by decide +kernel, by decide +kernel⟩
theorem cv_X6_41 : Vw RX6 41 RX8 yX8_accept cX8_accept 2 (some .boolean) 1 := ⟨rfl, mw 865 (by decide +kernel) rfl, mw 655 (by decide +kernel) rfl, mw 656 (by decide +kernel) rfl, mw 63 (by decide +kernel) rfl, cd_X8_accept, by decide +kernel, by decide +kernel, by decide +kernel⟩
theorem cv_X6_53 : Vw RX6 53 RX8 yX8_figureBelow cX8_figureBelow 3 (some .int) 1 := ⟨rfl, mw 866 (by decide +kernel) rfl, mw 659 (by decide +kernel) rfl, mw 660 (by decide +kernel) rfl, mw 63 (by decide +kernel) rfl, cd_X8_figureBelow, by decide +kernel, by decide +kernel, by decide +kernel⟩
theorem cv_X6_57 : Vw RX6 57 RX6 yX6_readMessage cX6_readMessage 1 (some .boolean) 0 := ⟨rfl, mw 867 (by decide +kernel) rfl, mw 869 (by decide +kernel) rfl, mw 25 (by decide +kernel) rfl, mw 66 (by decide +kernel) rfl, cd_X6_readMessage, by decide +kernel, by decide +kernel, by decide +kernel⟩
theorem cv_X6_60 : Vw RX6 60 RX6 yX6_readValue cX6_readValue 3 (some .boolean) 0 := ⟨rfl, mw 871 (by decide +kernel) rfl, mw 873 (by decide +kernel) rfl, mw 26 (by decide +kernel) rfl, mw 66 (by decide +kernel) rfl, cd_X6_readValue, by decide +kernel, by decide +kernel, by decide +kernel⟩
theorem cv_X6_63 : Vw RX6 63 RX8 yX8_number cX8_number 4 (some .int) 0 := ⟨rfl, mw 875 (by decide +kernel) rfl, mw 663 (by decide +kernel) rfl, mw 664 (by decide +kernel) rfl, mw 63 (by decide +kernel) rfl, cd_X8_number, by decide +kernel, by decide +kernel, by decide +kernel⟩
theorem cv_X6_45 : Vw RX6 45 RX8 yX8_isAtEnd cX8_isAtEnd 1 (some .boolean) 0 := ⟨rfl, mw 876 (by decide +kernel) rfl, mw 672 (by decide +kernel) rfl, mw 673 (by decide +kernel) rfl, mw 63 (by decide +kernel) rfl, cd_X8_isAtEnd, by decide +kernel, by decide +kernel, by decide +kernel⟩
theorem cv_X9_299 : Vw RX9 299 RX9 yX9_doStatements cX9_doStatements 2 (some .int) 0 := ⟨rfl, mw 877 (by decide +kernel) rfl, mw 879 (by decide +kernel) rfl, mw 27 (by decide +kernel) rfl, mw 61 (by decide +kernel) rfl, cd_X9_doStatements, by decide +kernel, by decide +kernel, by decide +kernel⟩
theorem cv_X9_345 : Vw RX9 345 RX6 yX6_readStatement cX6_readStatement 1 (some .boolean) 0 := ⟨rfl, mw 881 (by decide +kernel) rfl, mw 862 (by decide +kernel) rfl, mw 863 (by decide +kernel) rfl, mw 66 (by decide +kernel) rfl, cd_X6_readStatement, by decide +kernel, by decide +kernel, by decide +kernel⟩
theorem cv_X9_348 : Vw RX9 348 RX9 yX9_doStatement cX9_doStatement 1 (some .int) 0 := ⟨rfl, mw 882 (by decide +kernel) rfl, mw 884 (by decide +kernel) rfl, mw 28 (by decide +kernel) rfl, mw 61 (by decide +kernel) rfl, cd_X9_doStatement, by decide +kernel, by decide +kernel, by decide +kernel⟩
theorem cv_X9_363 : Vw RX9 363 RX9 yX9_step cX9_step 3 (some .int) 2 := ⟨rfl, mw 886 (by decide +kernel) rfl, mw 406 (by decide +kernel) rfl, mw 407 (by decide +kernel) rfl, mw 61 (by decide +kernel) rfl, cd_X9_step, by decide +kernel, by decide +kernel, by decide +kernel⟩
theorem cv_X9_366 : Vw RX9 366 RX9 yX9_send cX9_send 4 (some .int) 2 := ⟨rfl, mw 887 (by decide +kernel) rfl, mw 439 (by decide +kernel) rfl, mw 440 (by decide +kernel) rfl, mw 61 (by decide +kernel) rfl, cd_X9_send, by decide +kernel, by decide +kernel, by decide +kernel⟩
theorem cv_X9_372 : Vw RX9 372 RX9 yX9_take cX9_take 4 (some .int) 3 := ⟨rfl, mw 888 (by decide +kernel) rfl, mw 447 (by decide +kernel) rfl, mw 448 (by decide +kernel) rfl, mw 61 (by decide +kernel) rfl, cd_X9_take, by decide +kernel, by decide +kernel, by decide +kernel⟩
theorem cv_X9_351 : Vw RX9 351 RX8 yX8_accept cX8_accept 2 (some .boolean) 1 := ⟨rfl, mw 889 (by decide +kernel) rfl, mw 655 (by decide +kernel) rfl, mw 656 (by decide +kernel) rfl, mw 63 (by decide +kernel) rfl, cd_X8_accept, by decide +kernel, by decide +kernel, by decide +kernel⟩
theorem cv_L_155 : Vw RL 155 RX9 yX9_list cX9_list 3 (some .int) 2 := ⟨rfl, mw 890 (by decide +kernel) rfl, mw 891 (by decide +kernel) rfl, mw 892 (by decide +kernel) rfl, mw 61 (by decide +kernel) rfl, cd_X9_list, by decide +kernel, by decide +kernel, by decide +kernel⟩
theorem cv_X9_303 : Sw RX9 303 yX9_isList cX9_isList 1 (some .boolean) 1 := ⟨mw 894 (by decide +kernel) rfl, mw 895 (by decide +kernel) rfl, mw 61 (by decide +kernel) rfl, cd_X9_isList, by decide +kernel, by decide +kernel, by decide +kernel⟩
theorem cv_X9_306 : Vw RX9 306 RX3 yX3_resize cX3_resize 2 none 1 := ⟨rfl, mw 897 (by decide +kernel) rfl, mw 898 (by decide +kernel) rfl, mw 899 (by decide +kernel) rfl, mw 69 (by decide +kernel) rfl, cd_X3_resize, by decide +kernel, by decide +kernel, by decide +kernel⟩
theorem cv_X3_19 : Sw RX3 19 yJ7_fill_d0a16 cJ7_fill_d0a16 5 none 2 := ⟨mw 901 (by decide +kernel) rfl, mw 611 (by decide +kernel) rfl, mw 71 (by decide +kernel) rfl, cd_J7_fill_d0a16, by decide +kernel, by decide +kernel, by decide +kernel⟩
theorem cv_L_161 : Vw RL 161 RX9 yX9_lay cX9_lay 5 (some .int) 3 := ⟨rfl, mw 902 (by decide +kernel) rfl, mw 903 (by decide +kernel) rfl, mw 904 (by decide +kernel) rfl, mw 61 (by decide +kernel) rfl, cd_X9_lay, by decide +kernel, by decide +kernel, by decide +kernel⟩
theorem cv_X9_309 : Vw RX9 309 RX3 yX3_isMissing cX3_isMissing 1 (some .boolean) 0 := ⟨rfl, mw 906 (by decide +kernel) rfl, mw 907 (by decide +kernel) rfl, mw 908 (by decide +kernel) rfl, mw 69 (by decide +kernel) rfl, cd_X3_isMissing, by decide +kernel, by decide +kernel, by decide +kernel⟩
theorem cv_X9_312 : Vw RX9 312 RX3 yX3_hasPlace cX3_hasPlace 2 (some .boolean) 1 := ⟨rfl, mw 910 (by decide +kernel) rfl, mw 911 (by decide +kernel) rfl, mw 912 (by decide +kernel) rfl, mw 69 (by decide +kernel) rfl, cd_X3_hasPlace, by decide +kernel, by decide +kernel, by decide +kernel⟩
theorem cv_L_166 : Vw RL 166 RX9 yX9_get cX9_get 3 (some .long) 2 := ⟨rfl, mw 914 (by decide +kernel) rfl, mw 915 (by decide +kernel) rfl, mw 916 (by decide +kernel) rfl, mw 61 (by decide +kernel) rfl, cd_X9_get, by decide +kernel, by decide +kernel, by decide +kernel⟩
theorem cv_L_171 : Vw RL 171 RX9 yX9_film cX9_film 4 (some .int) 2 := ⟨rfl, mw 918 (by decide +kernel) rfl, mw 919 (by decide +kernel) rfl, mw 920 (by decide +kernel) rfl, mw 61 (by decide +kernel) rfl, cd_X9_film, by decide +kernel, by decide +kernel, by decide +kernel⟩
theorem cv_X9_319 : Vw RX9 319 RX7 yX7_copyMetTo cX7_copyMetTo 4 (some .int) 1 := ⟨rfl, mw 922 (by decide +kernel) rfl, mw 923 (by decide +kernel) rfl, mw 924 (by decide +kernel) rfl, mw 68 (by decide +kernel) rfl, cd_X7_copyMetTo, by decide +kernel, by decide +kernel, by decide +kernel⟩
theorem cv_X7_140 : Sw RX7 140 yJ9_min_7cf53 cJ9_min_7cf53 2 (some .int) 2 := ⟨mw 926 (by decide +kernel) rfl, mw 927 (by decide +kernel) rfl, mw 73 (by decide +kernel) rfl, cd_J9_min_7cf53, by decide +kernel, by decide +kernel, by decide +kernel⟩
theorem cv_X7_145 : Vw RX7 145 RX3 yX3_resize cX3_resize 2 none 1 := ⟨rfl, mw 929 (by decide +kernel) rfl, mw 898 (by decide +kernel) rfl, mw 899 (by decide +kernel) rfl, mw 69 (by decide +kernel) rfl, cd_X3_resize, by decide +kernel, by decide +kernel, by decide +kernel⟩
theorem cv_L_175 : Vw RL 175 RX9 yX9_judge cX9_judge 3 (some .int) 2 := ⟨rfl, mw 930 (by decide +kernel) rfl, mw 931 (by decide +kernel) rfl, mw 932 (by decide +kernel) rfl, mw 61 (by decide +kernel) rfl, cd_X9_judge, by decide +kernel, by decide +kernel, by decide +kernel⟩
theorem cv_X9_323 : Vw RX9 323 RX7 yX7_judgeOf cX7_judgeOf 4 (some .int) 1 := ⟨rfl, mw 934 (by decide +kernel) rfl, mw 935 (by decide +kernel) rfl, mw 936 (by decide +kernel) rfl, mw 68 (by decide +kernel) rfl, cd_X7_judgeOf, by decide +kernel, by decide +kernel, by decide +kernel⟩
theorem cv_L_179 : Vw RL 179 RX9 yX9_image cX9_image 2 (some .int) 0 := ⟨rfl, mw 938 (by decide +kernel) rfl, mw 939 (by decide +kernel) rfl, mw 940 (by decide +kernel) rfl, mw 61 (by decide +kernel) rfl, cd_X9_image, by decide +kernel, by decide +kernel, by decide +kernel⟩
theorem cv_X9_326 : Vw RX9 326 RX5 yX5_copyFrom cX5_copyFrom 2 none 1 := ⟨rfl, mw 942 (by decide +kernel) rfl, mw 943 (by decide +kernel) rfl, mw 944 (by decide +kernel) rfl, mw 62 (by decide +kernel) rfl, cd_X5_copyFrom, by decide +kernel, by decide +kernel, by decide +kernel⟩
theorem cv_X9_329 : Vw RX9 329 RX0 yX0_copyFrom cX0_copyFrom 2 none 1 := ⟨rfl, mw 947 (by decide +kernel) rfl, mw 948 (by decide +kernel) rfl, mw 949 (by decide +kernel) rfl, mw 67 (by decide +kernel) rfl, cd_X0_copyFrom, by decide +kernel, by decide +kernel, by decide +kernel⟩
theorem cv_L_183 : Vw RL 183 RX9 yX9_undo cX9_undo 2 (some .int) 0 := ⟨rfl, mw 952 (by decide +kernel) rfl, mw 953 (by decide +kernel) rfl, mw 954 (by decide +kernel) rfl, mw 61 (by decide +kernel) rfl, cd_X9_undo, by decide +kernel, by decide +kernel, by decide +kernel⟩
theorem cv_L_187 : Vw RL 187 RX9 yX9_count cX9_count 2 (some .int) 1 := ⟨rfl, mw 956 (by decide +kernel) rfl, mw 957 (by decide +kernel) rfl, mw 958 (by decide +kernel) rfl, mw 61 (by decide +kernel) rfl, cd_X9_count, by decide +kernel, by decide +kernel, by decide +kernel⟩
theorem cv_X9_331 : Vw RX9 331 RX5 yX5_marksInAll cX5_marksInAll 4 (some .int) 0 := ⟨rfl, mw 960 (by decide +kernel) rfl, mw 961 (by decide +kernel) rfl, mw 962 (by decide +kernel) rfl, mw 62 (by decide +kernel) rfl, cd_X5_marksInAll, by decide +kernel, by decide +kernel, by decide +kernel⟩
theorem cv_X9_334 : Vw RX9 334 RX9 yX9_conditionsTold cX9_conditionsTold 3 (some .int) 0 := ⟨rfl, mw 964 (by decide +kernel) rfl, mw 966 (by decide +kernel) rfl, mw 29 (by decide +kernel) rfl, mw 61 (by decide +kernel) rfl, cd_X9_conditionsTold, by decide +kernel, by decide +kernel, by decide +kernel⟩
theorem cv_X9_337 : Vw RX9 337 RX9 yX9_listsThere cX9_listsThere 3 (some .int) 0 := ⟨rfl, mw 968 (by decide +kernel) rfl, mw 970 (by decide +kernel) rfl, mw 30 (by decide +kernel) rfl, mw 61 (by decide +kernel) rfl, cd_X9_listsThere, by decide +kernel, by decide +kernel, by decide +kernel⟩
theorem cv_L_17 : Vw RL 17 RX10 yX10_processes cX10_processes 4 (some .int) 1 := ⟨rfl, mw 1178 (by decide +kernel) rfl, mw 1179 (by decide +kernel) rfl, mw 1180 (by decide +kernel) rfl, mw 70 (by decide +kernel) rfl, cd_X10_processes, by decide +kernel, by decide +kernel, by decide +kernel⟩
theorem cv_X10_165 : Sw RX10 165 yX10_in cX10_in 6 (some .boolean) 3 := ⟨mw 1183 (by decide +kernel) rfl, mw 1184 (by decide +kernel) rfl, mw 70 (by decide +kernel) rfl, cd_X10_in, by decide +kernel, by decide +kernel, by decide +kernel⟩
theorem cv_L_22 : Vw RL 22 RX10 yX10_start cX10_start 4 (some .int) 2 := ⟨rfl, mw 1186 (by decide +kernel) rfl, mw 1187 (by decide +kernel) rfl, mw 1188 (by decide +kernel) rfl, mw 70 (by decide +kernel) rfl, cd_X10_start, by decide +kernel, by decide +kernel, by decide +kernel⟩
theorem cv_X10_169 : Vw RX10 169 RX10 yX10_isProcess cX10_isProcess 2 (some .boolean) 1 := ⟨rfl, mw 1190 (by decide +kernel) rfl, mw 1192 (by decide +kernel) rfl, mw 31 (by decide +kernel) rfl, mw 70 (by decide +kernel) rfl, cd_X10_isProcess, by decide +kernel, by decide +kernel, by decide +kernel⟩
theorem cv_L_26 : Vw RL 26 RX10 yX10_step cX10_step 3 (some .int) 2 := ⟨rfl, mw 1196 (by decide +kernel) rfl, mw 1197 (by decide +kernel) rfl, mw 1198 (by decide +kernel) rfl, mw 70 (by decide +kernel) rfl, cd_X10_step, by decide +kernel, by decide +kernel, by decide +kernel⟩
theorem cv_X10_198 : Vw RX10 198 RX10 yX10_comes cX10_comes 8 (some .int) 4 := ⟨rfl, mw 1200 (by decide +kernel) rfl, mw 1202 (by decide +kernel) rfl, mw 32 (by decide +kernel) rfl, mw 70 (by decide +kernel) rfl, cd_X10_comes, by decide +kernel, by decide +kernel, by decide +kernel⟩
theorem cv_X10_189 : Sw RX10 189 yX10_at cX10_at 2 (some .int) 2 := ⟨mw 1204 (by decide +kernel) rfl, mw 1205 (by decide +kernel) rfl, mw 70 (by decide +kernel) rfl, cd_X10_at, by decide +kernel, by decide +kernel, by decide +kernel⟩
theorem cv_X10_193 : Sw RX10 193 yJ9_max_7cf53 cJ9_max_7cf53 2 (some .int) 2 := ⟨mw 1207 (by decide +kernel) rfl, mw 1208 (by decide +kernel) rfl, mw 73 (by decide +kernel) rfl, cd_J9_max_7cf53, by decide +kernel, by decide +kernel, by decide +kernel⟩
theorem cv_L_30 : Vw RL 30 RX10 yX10_send cX10_send 4 (some .int) 2 := ⟨rfl, mw 1210 (by decide +kernel) rfl, mw 1211 (by decide +kernel) rfl, mw 1212 (by decide +kernel) rfl, mw 70 (by decide +kernel) rfl, cd_X10_send, by decide +kernel, by decide +kernel, by decide +kernel⟩
theorem cv_L_35 : Vw RL 35 RX10 yX10_take cX10_take 5 (some .int) 3 := ⟨rfl, mw 1214 (by decide +kernel) rfl, mw 1215 (by decide +kernel) rfl, mw 1216 (by decide +kernel) rfl, mw 70 (by decide +kernel) rfl, cd_X10_take, by decide +kernel, by decide +kernel, by decide +kernel⟩
theorem cv_L_40 : Vw RL 40 RX10 yX10_back cX10_back 3 (some .int) 0 := ⟨rfl, mw 1218 (by decide +kernel) rfl, mw 1219 (by decide +kernel) rfl, mw 1220 (by decide +kernel) rfl, mw 70 (by decide +kernel) rfl, cd_X10_back, by decide +kernel, by decide +kernel, by decide +kernel⟩
theorem cv_L_44 : Vw RL 44 RX10 yX10_eventOf cX10_eventOf 5 (some .int) 3 := ⟨rfl, mw 1222 (by decide +kernel) rfl, mw 1223 (by decide +kernel) rfl, mw 1224 (by decide +kernel) rfl, mw 70 (by decide +kernel) rfl, cd_X10_eventOf, by decide +kernel, by decide +kernel, by decide +kernel⟩
theorem cv_X10_202 : Vw RX10 202 RX10 yX10_isEvent cX10_isEvent 3 (some .boolean) 2 := ⟨rfl, mw 1226 (by decide +kernel) rfl, mw 1228 (by decide +kernel) rfl, mw 33 (by decide +kernel) rfl, mw 70 (by decide +kernel) rfl, cd_X10_isEvent, by decide +kernel, by decide +kernel, by decide +kernel⟩
theorem cv_L_48 : Vw RL 48 RX10 yX10_clock cX10_clock 4 (some .int) 3 := ⟨rfl, mw 1231 (by decide +kernel) rfl, mw 1232 (by decide +kernel) rfl, mw 1233 (by decide +kernel) rfl, mw 70 (by decide +kernel) rfl, cd_X10_clock, by decide +kernel, by decide +kernel, by decide +kernel⟩
theorem cv_L_53 : Vw RL 53 RX10 yX10_ahead cX10_ahead 5 (some .int) 4 := ⟨rfl, mw 1235 (by decide +kernel) rfl, mw 1236 (by decide +kernel) rfl, mw 1237 (by decide +kernel) rfl, mw 70 (by decide +kernel) rfl, cd_X10_ahead, by decide +kernel, by decide +kernel, by decide +kernel⟩
theorem cv_L_57 : Vw RL 57 RX10 yX10_message cX10_message 3 (some .int) 2 := ⟨rfl, mw 1239 (by decide +kernel) rfl, mw 1240 (by decide +kernel) rfl, mw 1241 (by decide +kernel) rfl, mw 70 (by decide +kernel) rfl, cd_X10_message, by decide +kernel, by decide +kernel, by decide +kernel⟩
theorem cv_L_61 : Vw RL 61 RX10 yX10_cuts cX10_cuts 1 (some .int) 0 := ⟨rfl, mw 1243 (by decide +kernel) rfl, mw 1244 (by decide +kernel) rfl, mw 1245 (by decide +kernel) rfl, mw 70 (by decide +kernel) rfl, cd_X10_cuts, by decide +kernel, by decide +kernel, by decide +kernel⟩
theorem cv_X10_219 : Vw RX10 219 RX10 yX10_layCuts cX10_layCuts 3 none 0 := ⟨rfl, mw 1247 (by decide +kernel) rfl, mw 1249 (by decide +kernel) rfl, mw 34 (by decide +kernel) rfl, mw 70 (by decide +kernel) rfl, cd_X10_layCuts, by decide +kernel, by decide +kernel, by decide +kernel⟩
theorem cv_X10_211 : Vw RX10 211 RX10 yX10_holdsNow cX10_holdsNow 3 (some .boolean) 0 := ⟨rfl, mw 1251 (by decide +kernel) rfl, mw 1253 (by decide +kernel) rfl, mw 35 (by decide +kernel) rfl, mw 70 (by decide +kernel) rfl, cd_X10_holdsNow, by decide +kernel, by decide +kernel, by decide +kernel⟩
theorem cv_X10_215 : Vw RX10 215 RX10 yX10_digitsNow cX10_digitsNow 3 (some .int) 0 := ⟨rfl, mw 1255 (by decide +kernel) rfl, mw 1257 (by decide +kernel) rfl, mw 36 (by decide +kernel) rfl, mw 70 (by decide +kernel) rfl, cd_X10_digitsNow, by decide +kernel, by decide +kernel, by decide +kernel⟩
theorem cv_L_65 : Vw RL 65 RX10 yX10_cut cX10_cut 2 (some .int) 1 := ⟨rfl, mw 1259 (by decide +kernel) rfl, mw 1260 (by decide +kernel) rfl, mw 1261 (by decide +kernel) rfl, mw 70 (by decide +kernel) rfl, cd_X10_cut, by decide +kernel, by decide +kernel, by decide +kernel⟩
theorem cv_X10_222 : Vw RX10 222 RX10 yX10_isCut cX10_isCut 2 (some .boolean) 1 := ⟨rfl, mw 1263 (by decide +kernel) rfl, mw 1265 (by decide +kernel) rfl, mw 37 (by decide +kernel) rfl, mw 70 (by decide +kernel) rfl, cd_X10_isCut, by decide +kernel, by decide +kernel, by decide +kernel⟩
theorem cv_L_69 : Vw RL 69 RX10 yX10_which cX10_which 4 (some .int) 1 := ⟨rfl, mw 1267 (by decide +kernel) rfl, mw 1268 (by decide +kernel) rfl, mw 1269 (by decide +kernel) rfl, mw 70 (by decide +kernel) rfl, cd_X10_which, by decide +kernel, by decide +kernel, by decide +kernel⟩
theorem cv_L_73 : Vw RL 73 RX10 yX10_level cX10_level 2 (some .int) 1 := ⟨rfl, mw 1271 (by decide +kernel) rfl, mw 1272 (by decide +kernel) rfl, mw 1273 (by decide +kernel) rfl, mw 70 (by decide +kernel) rfl, cd_X10_level, by decide +kernel, by decide +kernel, by decide +kernel⟩
theorem cv_X10_225 : Vw RX10 225 RX10 yX10_levelOf cX10_levelOf 4 (some .int) 1 := ⟨rfl, mw 1275 (by decide +kernel) rfl, mw 1277 (by decide +kernel) rfl, mw 38 (by decide +kernel) rfl, mw 70 (by decide +kernel) rfl, cd_X10_levelOf, by decide +kernel, by decide +kernel, by decide +kernel⟩
theorem cv_L_77 : Vw RL 77 RX10 yX10_next cX10_next 5 (some .int) 2 := ⟨rfl, mw 1279 (by decide +kernel) rfl, mw 1280 (by decide +kernel) rfl, mw 1281 (by decide +kernel) rfl, mw 70 (by decide +kernel) rfl, cd_X10_next, by decide +kernel, by decide +kernel, by decide +kernel⟩
theorem cv_X10_229 : Vw RX10 229 RX10 yX10_nextBy cX10_nextBy 5 (some .int) 2 := ⟨rfl, mw 1283 (by decide +kernel) rfl, mw 1285 (by decide +kernel) rfl, mw 39 (by decide +kernel) rfl, mw 70 (by decide +kernel) rfl, cd_X10_nextBy, by decide +kernel, by decide +kernel, by decide +kernel⟩
theorem cv_L_81 : Vw RL 81 RX10 yX10_meet cX10_meet 3 (some .int) 2 := ⟨rfl, mw 1287 (by decide +kernel) rfl, mw 1288 (by decide +kernel) rfl, mw 1289 (by decide +kernel) rfl, mw 70 (by decide +kernel) rfl, cd_X10_meet, by decide +kernel, by decide +kernel, by decide +kernel⟩
theorem cv_X10_235 : Vw RX10 235 RX10 yX10_both cX10_both 7 (some .int) 3 := ⟨rfl, mw 1291 (by decide +kernel) rfl, mw 1293 (by decide +kernel) rfl, mw 40 (by decide +kernel) rfl, mw 70 (by decide +kernel) rfl, cd_X10_both, by decide +kernel, by decide +kernel, by decide +kernel⟩
theorem cv_X10_232 : Sw RX10 232 yJ9_min_7cf53 cJ9_min_7cf53 2 (some .int) 2 := ⟨mw 1295 (by decide +kernel) rfl, mw 927 (by decide +kernel) rfl, mw 73 (by decide +kernel) rfl, cd_J9_min_7cf53, by decide +kernel, by decide +kernel, by decide +kernel⟩
theorem cv_L_85 : Vw RL 85 RX10 yX10_join cX10_join 3 (some .int) 2 := ⟨rfl, mw 1296 (by decide +kernel) rfl, mw 1297 (by decide +kernel) rfl, mw 1298 (by decide +kernel) rfl, mw 70 (by decide +kernel) rfl, cd_X10_join, by decide +kernel, by decide +kernel, by decide +kernel⟩
theorem cv_L_89 : Vw RL 89 RX10 yX10_under cX10_under 2 (some .int) 1 := ⟨rfl, mw 1300 (by decide +kernel) rfl, mw 1301 (by decide +kernel) rfl, mw 1302 (by decide +kernel) rfl, mw 70 (by decide +kernel) rfl, cd_X10_under, by decide +kernel, by decide +kernel, by decide +kernel⟩
theorem cv_X10_239 : Vw RX10 239 RX10 yX10_underOf cX10_underOf 6 (some .int) 1 := ⟨rfl, mw 1304 (by decide +kernel) rfl, mw 1306 (by decide +kernel) rfl, mw 41 (by decide +kernel) rfl, mw 70 (by decide +kernel) rfl, cd_X10_underOf, by decide +kernel, by decide +kernel, by decide +kernel⟩
theorem cv_L_93 : Vw RL 93 RX10 yX10_value cX10_value 3 (some .int) 2 := ⟨rfl, mw 1308 (by decide +kernel) rfl, mw 1309 (by decide +kernel) rfl, mw 1310 (by decide +kernel) rfl, mw 70 (by decide +kernel) rfl, cd_X10_value, by decide +kernel, by decide +kernel, by decide +kernel⟩
theorem cv_X10_242 : Vw RX10 242 RX10 yX10_valueIn cX10_valueIn 4 (some .int) 2 := ⟨rfl, mw 1312 (by decide +kernel) rfl, mw 1314 (by decide +kernel) rfl, mw 42 (by decide +kernel) rfl, mw 70 (by decide +kernel) rfl, cd_X10_valueIn, by decide +kernel, by decide +kernel, by decide +kernel⟩
theorem cv_L_98 : Vw RL 98 RX10 yX10_ways cX10_ways 4 (some .long) 1 := ⟨rfl, mw 1316 (by decide +kernel) rfl, mw 1317 (by decide +kernel) rfl, mw 1318 (by decide +kernel) rfl, mw 70 (by decide +kernel) rfl, cd_X10_ways, by decide +kernel, by decide +kernel, by decide +kernel⟩
theorem cv_L_102 : Vw RL 102 RX10 yX10_read cX10_read 5 (some .int) 1 := ⟨rfl, mw 1321 (by decide +kernel) rfl, mw 1322 (by decide +kernel) rfl, mw 1323 (by decide +kernel) rfl, mw 70 (by decide +kernel) rfl, cd_X10_read, by decide +kernel, by decide +kernel, by decide +kernel⟩
theorem cv_X10_274 : Sw RX10 274 yX10_isCondition cX10_isCondition 1 (some .boolean) 1 := ⟨mw 1325 (by decide +kernel) rfl, mw 1326 (by decide +kernel) rfl, mw 70 (by decide +kernel) rfl, cd_X10_isCondition, by decide +kernel, by decide +kernel, by decide +kernel⟩
theorem cv_X10_277 : Vw RX10 277 RX10 yX10_conditionFault cX10_conditionFault 4 (some .int) 0 := ⟨rfl, mw 1329 (by decide +kernel) rfl, mw 1331 (by decide +kernel) rfl, mw 43 (by decide +kernel) rfl, mw 70 (by decide +kernel) rfl, cd_X10_conditionFault, by decide +kernel, by decide +kernel, by decide +kernel⟩
theorem cv_X10_263 : Vw RX10 263 RX10 yX10_behindUnit cX10_behindUnit 3 (some .int) 1 := ⟨rfl, mw 1333 (by decide +kernel) rfl, mw 1335 (by decide +kernel) rfl, mw 44 (by decide +kernel) rfl, mw 70 (by decide +kernel) rfl, cd_X10_behindUnit, by decide +kernel, by decide +kernel, by decide +kernel⟩
theorem cv_X10_254 : Vw RX10 254 RX10 yX10_tapeAt cX10_tapeAt 2 (some .int) 1 := ⟨rfl, mw 1337 (by decide +kernel) rfl, mw 1339 (by decide +kernel) rfl, mw 45 (by decide +kernel) rfl, mw 70 (by decide +kernel) rfl, cd_X10_tapeAt, by decide +kernel, by decide +kernel, by decide +kernel⟩
theorem cv_X10_257 : Sw RX10 257 yX10_isFigure cX10_isFigure 1 (some .boolean) 1 := ⟨mw 1342 (by decide +kernel) rfl, mw 1343 (by decide +kernel) rfl, mw 70 (by decide +kernel) rfl, cd_X10_isFigure, by decide +kernel, by decide +kernel, by decide +kernel⟩
theorem cv_X10_266 : Vw RX10 266 RX10 yX10_testEnds cX10_testEnds 1 none 0 := ⟨rfl, mw 1346 (by decide +kernel) rfl, mw 1348 (by decide +kernel) rfl, mw 46 (by decide +kernel) rfl, mw 70 (by decide +kernel) rfl, cd_X10_testEnds, by decide +kernel, by decide +kernel, by decide +kernel⟩
theorem cv_X10_269 : Vw RX10 269 RX10 yX10_isOpen cX10_isOpen 2 (some .boolean) 0 := ⟨rfl, mw 1350 (by decide +kernel) rfl, mw 1352 (by decide +kernel) rfl, mw 47 (by decide +kernel) rfl, mw 70 (by decide +kernel) rfl, cd_X10_isOpen, by decide +kernel, by decide +kernel, by decide +kernel⟩
theorem cv_L_106 : Vw RL 106 RX10 yX10_holds cX10_holds 3 (some .int) 2 := ⟨rfl, mw 1354 (by decide +kernel) rfl, mw 1355 (by decide +kernel) rfl, mw 1356 (by decide +kernel) rfl, mw 70 (by decide +kernel) rfl, cd_X10_holds, by decide +kernel, by decide +kernel, by decide +kernel⟩
theorem cv_X10_298 : Vw RX10 298 RX10 yX10_meets cX10_meets 8 (some .boolean) 2 := ⟨rfl, mw 1358 (by decide +kernel) rfl, mw 1360 (by decide +kernel) rfl, mw 48 (by decide +kernel) rfl, mw 70 (by decide +kernel) rfl, cd_X10_meets, by decide +kernel, by decide +kernel, by decide +kernel⟩
theorem cv_X10_283 : Vw RX10 283 RX10 yX10_compare cX10_compare 6 (some .boolean) 2 := ⟨rfl, mw 1362 (by decide +kernel) rfl, mw 1364 (by decide +kernel) rfl, mw 49 (by decide +kernel) rfl, mw 70 (by decide +kernel) rfl, cd_X10_compare, by decide +kernel, by decide +kernel, by decide +kernel⟩
theorem cv_X10_292 : Vw RX10 292 RX10 yX10_sumIn cX10_sumIn 8 (some .int) 2 := ⟨rfl, mw 1366 (by decide +kernel) rfl, mw 1368 (by decide +kernel) rfl, mw 50 (by decide +kernel) rfl, mw 70 (by decide +kernel) rfl, cd_X10_sumIn, by decide +kernel, by decide +kernel, by decide +kernel⟩
theorem cv_X10_289 : Vw RX10 289 RX10 yX10_unitIn cX10_unitIn 6 (some .int) 2 := ⟨rfl, mw 1370 (by decide +kernel) rfl, mw 1372 (by decide +kernel) rfl, mw 51 (by decide +kernel) rfl, mw 70 (by decide +kernel) rfl, cd_X10_unitIn, by decide +kernel, by decide +kernel, by decide +kernel⟩
theorem cv_L_110 : Vw RL 110 RX10 yX10_possible cX10_possible 5 (some .int) 2 := ⟨rfl, mw 1374 (by decide +kernel) rfl, mw 1375 (by decide +kernel) rfl, mw 1376 (by decide +kernel) rfl, mw 70 (by decide +kernel) rfl, cd_X10_possible, by decide +kernel, by decide +kernel, by decide +kernel⟩
theorem cv_X10_301 : Vw RX10 301 RX10 yX10_layMet cX10_layMet 3 none 1 := ⟨rfl, mw 1378 (by decide +kernel) rfl, mw 1380 (by decide +kernel) rfl, mw 52 (by decide +kernel) rfl, mw 70 (by decide +kernel) rfl, cd_X10_layMet, by decide +kernel, by decide +kernel, by decide +kernel⟩
theorem cv_L_114 : Vw RL 114 RX10 yX10_sure cX10_sure 3 (some .int) 1 := ⟨rfl, mw 1382 (by decide +kernel) rfl, mw 1383 (by decide +kernel) rfl, mw 1384 (by decide +kernel) rfl, mw 70 (by decide +kernel) rfl, cd_X10_sure, by decide +kernel, by decide +kernel, by decide +kernel⟩
theorem cv_X10_305 : Vw RX10 305 RX10 yX10_wrongCondition cX10_wrongCondition 2 (some .int) 1 := ⟨rfl, mw 1386 (by decide +kernel) rfl, mw 1388 (by decide +kernel) rfl, mw 53 (by decide +kernel) rfl, mw 70 (by decide +kernel) rfl, cd_X10_wrongCondition, by decide +kernel, by decide +kernel, by decide +kernel⟩
theorem cv_X10_308 : Vw RX10 308 RX10 yX10_layFree cX10_layFree 5 (some .boolean) 1 := ⟨rfl, mw 1390 (by decide +kernel) rfl, mw 1392 (by decide +kernel) rfl, mw 54 (by decide +kernel) rfl, mw 70 (by decide +kernel) rfl, cd_X10_layFree, by decide +kernel, by decide +kernel, by decide +kernel⟩
theorem cv_L_118 : Vw RL 118 RX10 yX10_around cX10_around 6 (some .int) 2 := ⟨rfl, mw 1394 (by decide +kernel) rfl, mw 1395 (by decide +kernel) rfl, mw 1396 (by decide +kernel) rfl, mw 70 (by decide +kernel) rfl, cd_X10_around, by decide +kernel, by decide +kernel, by decide +kernel⟩
theorem cv_L_122 : Vw RL 122 RX10 yX10_slice cX10_slice 5 (some .int) 2 := ⟨rfl, mw 1398 (by decide +kernel) rfl, mw 1399 (by decide +kernel) rfl, mw 1400 (by decide +kernel) rfl, mw 70 (by decide +kernel) rfl, cd_X10_slice, by decide +kernel, by decide +kernel, by decide +kernel⟩
theorem cv_X10_311 : Vw RX10 311 RX10 yX10_layLeast cX10_layLeast 7 none 1 := ⟨rfl, mw 1402 (by decide +kernel) rfl, mw 1404 (by decide +kernel) rfl, mw 55 (by decide +kernel) rfl, mw 70 (by decide +kernel) rfl, cd_X10_layLeast, by decide +kernel, by decide +kernel, by decide +kernel⟩
theorem cv_X10_314 : Vw RX10 314 RX10 yX10_isSliced cX10_isSliced 6 (some .boolean) 1 := ⟨rfl, mw 1406 (by decide +kernel) rfl, mw 1408 (by decide +kernel) rfl, mw 56 (by decide +kernel) rfl, mw 70 (by decide +kernel) rfl, cd_X10_isSliced, by decide +kernel, by decide +kernel, by decide +kernel⟩
theorem cv_L_126 : Vw RL 126 RX10 yX10_regular cX10_regular 5 (some .int) 1 := ⟨rfl, mw 1410 (by decide +kernel) rfl, mw 1411 (by decide +kernel) rfl, mw 1412 (by decide +kernel) rfl, mw 70 (by decide +kernel) rfl, cd_X10_regular, by decide +kernel, by decide +kernel, by decide +kernel⟩
theorem cv_L_130 : Vw RL 130 RX10 yX10_least cX10_least 5 (some .int) 3 := ⟨rfl, mw 1414 (by decide +kernel) rfl, mw 1415 (by decide +kernel) rfl, mw 1416 (by decide +kernel) rfl, mw 70 (by decide +kernel) rfl, cd_X10_least, by decide +kernel, by decide +kernel, by decide +kernel⟩
theorem cv_L_134 : Vw RL 134 RX10 yX10_forget cX10_forget 3 (some .int) 1 := ⟨rfl, mw 1418 (by decide +kernel) rfl, mw 1419 (by decide +kernel) rfl, mw 1420 (by decide +kernel) rfl, mw 70 (by decide +kernel) rfl, cd_X10_forget, by decide +kernel, by decide +kernel, by decide +kernel⟩
theorem cv_L_138 : Vw RL 138 RX10 yX10_mark cX10_mark 5 (some .int) 3 := ⟨rfl, mw 1422 (by decide +kernel) rfl, mw 1423 (by decide +kernel) rfl, mw 1424 (by decide +kernel) rfl, mw 70 (by decide +kernel) rfl, cd_X10_mark, by decide +kernel, by decide +kernel, by decide +kernel⟩
theorem cv_L_142 : Vw RL 142 RX10 yX10_line cX10_line 6 (some .int) 0 := ⟨rfl, mw 1426 (by decide +kernel) rfl, mw 1427 (by decide +kernel) rfl, mw 1428 (by decide +kernel) rfl, mw 70 (by decide +kernel) rfl, cd_X10_line, by decide +kernel, by decide +kernel, by decide +kernel⟩
theorem cv_L_146 : Vw RL 146 RX10 yX10_feed cX10_feed 2 (some .int) 1 := ⟨rfl, mw 1430 (by decide +kernel) rfl, mw 1431 (by decide +kernel) rfl, mw 1432 (by decide +kernel) rfl, mw 70 (by decide +kernel) rfl, cd_X10_feed, by decide +kernel, by decide +kernel, by decide +kernel⟩
theorem cv_L_150 : Vw RL 150 RX10 yX10_wipe cX10_wipe 2 (some .int) 0 := ⟨rfl, mw 1436 (by decide +kernel) rfl, mw 1437 (by decide +kernel) rfl, mw 1438 (by decide +kernel) rfl, mw 70 (by decide +kernel) rfl, cd_X10_wipe, by decide +kernel, by decide +kernel, by decide +kernel⟩
theorem cv_L_154 : Vw RL 154 RX10 yX10_tell cX10_tell 5 (some .int) 0 := ⟨rfl, mw 1440 (by decide +kernel) rfl, mw 1441 (by decide +kernel) rfl, mw 1442 (by decide +kernel) rfl, mw 70 (by decide +kernel) rfl, cd_X10_tell, by decide +kernel, by decide +kernel, by decide +kernel⟩
theorem cv_X10_336 : Vw RX10 336 RX10 yX10_statement cX10_statement 6 none 0 := ⟨rfl, mw 1444 (by decide +kernel) rfl, mw 1446 (by decide +kernel) rfl, mw 57 (by decide +kernel) rfl, mw 70 (by decide +kernel) rfl, cd_X10_statement, by decide +kernel, by decide +kernel, by decide +kernel⟩
theorem cv_X10_327 : Vw RX10 327 RX10 yX10_wants cX10_wants 2 none 1 := ⟨rfl, mw 1448 (by decide +kernel) rfl, mw 1450 (by decide +kernel) rfl, mw 58 (by decide +kernel) rfl, mw 70 (by decide +kernel) rfl, cd_X10_wants, by decide +kernel, by decide +kernel, by decide +kernel⟩
theorem cv_X10_330 : Vw RX10 330 RX10 yX10_figure cX10_figure 2 (some .int) 0 := ⟨rfl, mw 1452 (by decide +kernel) rfl, mw 1454 (by decide +kernel) rfl, mw 59 (by decide +kernel) rfl, mw 70 (by decide +kernel) rfl, cd_X10_figure, by decide +kernel, by decide +kernel, by decide +kernel⟩
theorem cv_X10_339 : Vw RX10 339 RX10 yX10_step cX10_step 3 (some .int) 2 := ⟨rfl, mw 1456 (by decide +kernel) rfl, mw 1197 (by decide +kernel) rfl, mw 1198 (by decide +kernel) rfl, mw 70 (by decide +kernel) rfl, cd_X10_step, by decide +kernel, by decide +kernel, by decide +kernel⟩
theorem cv_X10_342 : Vw RX10 342 RX10 yX10_send cX10_send 4 (some .int) 2 := ⟨rfl, mw 1457 (by decide +kernel) rfl, mw 1211 (by decide +kernel) rfl, mw 1212 (by decide +kernel) rfl, mw 70 (by decide +kernel) rfl, cd_X10_send, by decide +kernel, by decide +kernel, by decide +kernel⟩
theorem cv_X10_345 : Vw RX10 345 RX10 yX10_take cX10_take 5 (some .int) 3 := ⟨rfl, mw 1458 (by decide +kernel) rfl, mw 1215 (by decide +kernel) rfl, mw 1216 (by decide +kernel) rfl, mw 70 (by decide +kernel) rfl, cd_X10_take, by decide +kernel, by decide +kernel, by decide +kernel⟩
theorem cv_L_158 : Vw RL 158 RX10 yX10_list cX10_list 4 (some .int) 2 := ⟨rfl, mw 1459 (by decide +kernel) rfl, mw 1460 (by decide +kernel) rfl, mw 1461 (by decide +kernel) rfl, mw 70 (by decide +kernel) rfl, cd_X10_list, by decide +kernel, by decide +kernel, by decide +kernel⟩
theorem cv_X10_349 : Sw RX10 349 yX10_isList cX10_isList 1 (some .boolean) 1 := ⟨mw 1463 (by decide +kernel) rfl, mw 1464 (by decide +kernel) rfl, mw 70 (by decide +kernel) rfl, cd_X10_isList, by decide +kernel, by decide +kernel, by decide +kernel⟩
theorem cv_L_165 : Vw RL 165 RX10 yX10_lay cX10_lay 5 (some .int) 3 := ⟨rfl, mw 1466 (by decide +kernel) rfl, mw 1467 (by decide +kernel) rfl, mw 1468 (by decide +kernel) rfl, mw 70 (by decide +kernel) rfl, cd_X10_lay, by decide +kernel, by decide +kernel, by decide +kernel⟩
theorem cv_L_170 : Vw RL 170 RX10 yX10_get cX10_get 3 (some .long) 2 := ⟨rfl, mw 1470 (by decide +kernel) rfl, mw 1471 (by decide +kernel) rfl, mw 1472 (by decide +kernel) rfl, mw 70 (by decide +kernel) rfl, cd_X10_get, by decide +kernel, by decide +kernel, by decide +kernel⟩
theorem cv_L_174 : Vw RL 174 RX10 yX10_film cX10_film 5 (some .int) 2 := ⟨rfl, mw 1474 (by decide +kernel) rfl, mw 1475 (by decide +kernel) rfl, mw 1476 (by decide +kernel) rfl, mw 70 (by decide +kernel) rfl, cd_X10_film, by decide +kernel, by decide +kernel, by decide +kernel⟩
theorem cv_L_178 : Vw RL 178 RX10 yX10_judge cX10_judge 5 (some .int) 2 := ⟨rfl, mw 1478 (by decide +kernel) rfl, mw 1479 (by decide +kernel) rfl, mw 1480 (by decide +kernel) rfl, mw 70 (by decide +kernel) rfl, cd_X10_judge, by decide +kernel, by decide +kernel, by decide +kernel⟩
theorem cv_L_182 : Vw RL 182 RX10 yX10_image cX10_image 1 (some .int) 0 := ⟨rfl, mw 1482 (by decide +kernel) rfl, mw 1483 (by decide +kernel) rfl, mw 1484 (by decide +kernel) rfl, mw 70 (by decide +kernel) rfl, cd_X10_image, by decide +kernel, by decide +kernel, by decide +kernel⟩
theorem cv_X10_364 : Sw RX10 364 yX10_copyRow cX10_copyRow 3 none 2 := ⟨mw 1486 (by decide +kernel) rfl, mw 1487 (by decide +kernel) rfl, mw 70 (by decide +kernel) rfl, cd_X10_copyRow, by decide +kernel, by decide +kernel, by decide +kernel⟩
theorem cv_L_186 : Vw RL 186 RX10 yX10_undo cX10_undo 1 (some .int) 0 := ⟨rfl, mw 1489 (by decide +kernel) rfl, mw 1490 (by decide +kernel) rfl, mw 1491 (by decide +kernel) rfl, mw 70 (by decide +kernel) rfl, cd_X10_undo, by decide +kernel, by decide +kernel, by decide +kernel⟩
theorem cv_L_190 : Vw RL 190 RX10 yX10_count cX10_count 6 (some .int) 1 := ⟨rfl, mw 1493 (by decide +kernel) rfl, mw 1494 (by decide +kernel) rfl, mw 1495 (by decide +kernel) rfl, mw 70 (by decide +kernel) rfl, cd_X10_count, by decide +kernel, by decide +kernel, by decide +kernel⟩
