def fX10_init (l0 : Nat) (s : zS) : Option zS :=
  bnd (nA s 12 6000 6000) fun s1 =>
  bnd (wR s1 10 l0 1 (zn s + 1)) fun s4 =>
  bnd (nA s4 12 6000 6000) fun s7 =>
  bnd (wR s7 10 l0 3 (zn s4 + 1)) fun s10 =>
  bnd (wI s10 10 l0 11 (-1)) fun s13 =>
  bnd (nA s13 12 301 301) fun s16 =>
  bnd (wR s16 10 l0 12 (zn s13 + 1)) fun s19 =>
  bnd (nA s19 12 301 301) fun s22 =>
  bnd (wR s22 10 l0 13 (zn s19 + 1)) fun s25 =>
  bnd (nA s25 12 2000 2000) fun s28 =>
  bnd (wR s28 10 l0 14 (zn s25 + 1)) fun s31 =>
  bnd (nA s31 12 301 301) fun s34 =>
  bnd (wR s34 10 l0 15 (zn s31 + 1)) fun s37 =>
  bnd (nA s37 12 301 301) fun s40 =>
  bnd (wR s40 10 l0 16 (zn s37 + 1)) fun s43 =>
  bnd (nA s43 12 2000 2000) fun s46 =>
  bnd (wR s46 10 l0 17 (zn s43 + 1)) fun s49 =>
  bnd (nA s49 13 301 301) fun s52 =>
  bnd (wR s52 10 l0 18 (zn s49 + 1)) fun s55 =>
  bnd (nA s55 12 301 301) fun s58 =>
  bnd (wR s58 10 l0 22 (zn s55 + 1)) fun s61 =>
  bnd (nA s61 12 301 301) fun s64 =>
  bnd (wR s64 10 l0 23 (zn s61 + 1)) fun s67 =>
  bnd (nA s67 12 2000 2000) fun s70 =>
  bnd (wR s70 10 l0 24 (zn s67 + 1)) fun s73 =>
  bnd (nA s73 13 301 301) fun s76 =>
  bnd (wR s76 10 l0 25 (zn s73 + 1)) fun s79 =>
  bnd (nA s79 12 601 601) fun s82 =>
  bnd (wR s82 10 l0 31 (zn s79 + 1)) fun s85 =>
  bnd (nA s85 12 301 301) fun s88 =>
  bnd (wR s88 10 l0 32 (zn s85 + 1)) fun s91 =>
  bnd (nA s91 13 601 601) fun s94 =>
  bnd (wR s94 10 l0 41 (zn s91 + 1)) fun s97 =>
  bnd (nA s97 13 601 601) fun s100 =>
  bnd (wR s100 10 l0 42 (zn s97 + 1)) fun s103 =>
  bnd (nA s103 13 601 601) fun s106 =>
  bnd (wR s106 10 l0 43 (zn s103 + 1)) fun s109 =>
  bnd (nA s109 13 601 601) fun s112 =>
  bnd (wR s112 10 l0 44 (zn s109 + 1)) fun s115 =>
  bnd (nA s115 12 301 301) fun s118 =>
  bnd (wR s118 10 l0 45 (zn s115 + 1)) fun s121 =>
  bnd (nA s121 12 151 151) fun s124 =>
  bnd (wR s124 10 l0 46 (zn s121 + 1)) fun s127 =>
  bnd (nA s127 12 151 151) fun s130 =>
  bnd (wR s130 10 l0 47 (zn s127 + 1)) fun s133 =>
  bnd (nA s133 12 151 151) fun s136 =>
  bnd (wR s136 10 l0 48 (zn s133 + 1)) fun s139 =>
  bnd (nA s139 12 4000 4000) fun s142 =>
  bnd (wR s142 10 l0 53 (zn s139 + 1)) fun s145 =>
  bnd (nA s145 12 601 601) fun s148 =>
  bnd (wR s148 10 l0 54 (zn s145 + 1)) fun s151 =>
  bnd (nA s151 12 601 601) fun s154 =>
  bnd (wR s154 10 l0 55 (zn s151 + 1)) fun s157 =>
  bnd (nA s157 12 6000 6000) fun s160 =>
  bnd (wR s160 10 l0 57 (zn s157 + 1)) fun s163 =>
  some s163
set_option maxRecDepth 100000 in
set_option maxHeartbeats 4000000 in
theorem okX10_init {E : zE} {l0 : Nat} {s : zS} {t : zS} (h : fX10_init l0 s = some t) : Cv E mX10_init [.ref l0] s t := by
  refine Ct.of (ls := [(0, .ref l0)]) (by decide) rfl (Nat.le_of_ble_eq_true rfl) ?_
  show Z E mX10_init 0 [(0, .ref l0)] [] s (27, 35670) (zRv E mX10_init t)
  unfold fX10_init at h
  refine z_aload_n (pc := 0) 0 rfl dX10_init_0 rfl ?_
  refine z_objInit (pc := 1) mlRX10_1 ob_i ob_c dX10_init_1 (Nat.le_of_ble_eq_true rfl) (Nat.le_of_ble_eq_true rfl) zrest0 ?_
  refine z_aload_n (pc := 4) 0 rfl dX10_init_4 rfl ?_
  refine z_sipush (pc := 5) (v := 6000) dX10_init_5 (by decide) ?_
  obtain ⟨a2, s1, e3, h⟩ := iNA h
  refine y_newI (pc := 8) (m := 6000) (b1 := 26) (b2 := 29670) ac_int dX10_init_8 (by decide) a2 rfl rfl e3 ?_
  obtain ⟨a5, s4, e6, h⟩ := jR h
  refine y_putR (pc := 10) flRX10_9 dX10_init_10 rfl (Or.inr ⟨rfl, rfl, rfl⟩) a5 e6 ?_
  refine z_aload_n (pc := 13) 0 rfl dX10_init_13 rfl ?_
  refine z_sipush (pc := 14) (v := 6000) dX10_init_14 (by decide) ?_
  obtain ⟨a8, s7, e9, h⟩ := iNA h
  refine y_newI (pc := 17) (m := 6000) (b1 := 25) (b2 := 23670) ac_int dX10_init_17 (by decide) a8 rfl rfl e9 ?_
  obtain ⟨a11, s10, e12, h⟩ := jR h
  refine y_putR (pc := 19) flRX10_13 dX10_init_19 rfl (Or.inr ⟨rfl, rfl, rfl⟩) a11 e12 ?_
  refine z_aload_n (pc := 22) 0 rfl dX10_init_22 rfl ?_
  refine z_iconst (pc := 23) (v := (-1)) dX10_init_23 (by decide) ?_
  obtain ⟨a14, s13, e15, h⟩ := jI h
  refine y_putI (pc := 24) flRX10_16 dX10_init_24 rfl (Or.inl rfl) a14 e15 ?_
  refine z_aload_n (pc := 27) 0 rfl dX10_init_27 rfl ?_
  refine z_sipush (pc := 28) (v := 301) dX10_init_28 (by decide) ?_
  obtain ⟨a17, s16, e18, h⟩ := iNA h
  refine y_newI (pc := 31) (m := 301) (b1 := 24) (b2 := 23369) ac_int dX10_init_31 (by decide) a17 rfl rfl e18 ?_
  obtain ⟨a20, s19, e21, h⟩ := jR h
  refine y_putR (pc := 33) flRX10_20 dX10_init_33 rfl (Or.inr ⟨rfl, rfl, rfl⟩) a20 e21 ?_
  refine z_aload_n (pc := 36) 0 rfl dX10_init_36 rfl ?_
  refine z_sipush (pc := 37) (v := 301) dX10_init_37 (by decide) ?_
  obtain ⟨a23, s22, e24, h⟩ := iNA h
  refine y_newI (pc := 40) (m := 301) (b1 := 23) (b2 := 23068) ac_int dX10_init_40 (by decide) a23 rfl rfl e24 ?_
  obtain ⟨a26, s25, e27, h⟩ := jR h
  refine y_putR (pc := 42) flRX10_23 dX10_init_42 rfl (Or.inr ⟨rfl, rfl, rfl⟩) a26 e27 ?_
  refine z_aload_n (pc := 45) 0 rfl dX10_init_45 rfl ?_
  refine z_sipush (pc := 46) (v := 2000) dX10_init_46 (by decide) ?_
  obtain ⟨a29, s28, e30, h⟩ := iNA h
  refine y_newI (pc := 49) (m := 2000) (b1 := 22) (b2 := 21068) ac_int dX10_init_49 (by decide) a29 rfl rfl e30 ?_
  obtain ⟨a32, s31, e33, h⟩ := jR h
  refine y_putR (pc := 51) flRX10_26 dX10_init_51 rfl (Or.inr ⟨rfl, rfl, rfl⟩) a32 e33 ?_
  refine z_aload_n (pc := 54) 0 rfl dX10_init_54 rfl ?_
  refine z_sipush (pc := 55) (v := 301) dX10_init_55 (by decide) ?_
  obtain ⟨a35, s34, e36, h⟩ := iNA h
  refine y_newI (pc := 58) (m := 301) (b1 := 21) (b2 := 20767) ac_int dX10_init_58 (by decide) a35 rfl rfl e36 ?_
  obtain ⟨a38, s37, e39, h⟩ := jR h
  refine y_putR (pc := 60) flRX10_29 dX10_init_60 rfl (Or.inr ⟨rfl, rfl, rfl⟩) a38 e39 ?_
  refine z_aload_n (pc := 63) 0 rfl dX10_init_63 rfl ?_
  refine z_sipush (pc := 64) (v := 301) dX10_init_64 (by decide) ?_
  obtain ⟨a41, s40, e42, h⟩ := iNA h
  refine y_newI (pc := 67) (m := 301) (b1 := 20) (b2 := 20466) ac_int dX10_init_67 (by decide) a41 rfl rfl e42 ?_
  obtain ⟨a44, s43, e45, h⟩ := jR h
  refine y_putR (pc := 69) flRX10_32 dX10_init_69 rfl (Or.inr ⟨rfl, rfl, rfl⟩) a44 e45 ?_
  refine z_aload_n (pc := 72) 0 rfl dX10_init_72 rfl ?_
  refine z_sipush (pc := 73) (v := 2000) dX10_init_73 (by decide) ?_
  obtain ⟨a47, s46, e48, h⟩ := iNA h
  refine y_newI (pc := 76) (m := 2000) (b1 := 19) (b2 := 18466) ac_int dX10_init_76 (by decide) a47 rfl rfl e48 ?_
  obtain ⟨a50, s49, e51, h⟩ := jR h
  refine y_putR (pc := 78) flRX10_35 dX10_init_78 rfl (Or.inr ⟨rfl, rfl, rfl⟩) a50 e51 ?_
  refine z_aload_n (pc := 81) 0 rfl dX10_init_81 rfl ?_
  refine z_sipush (pc := 82) (v := 301) dX10_init_82 (by decide) ?_
  obtain ⟨a53, s52, e54, h⟩ := iNA h
  refine y_newZ (pc := 85) (m := 301) (b1 := 18) (b2 := 18165) ac_boolean dX10_init_85 (by decide) a53 rfl rfl e54 ?_
  obtain ⟨a56, s55, e57, h⟩ := jR h
  refine y_putR (pc := 87) flRX10_38 dX10_init_87 rfl (Or.inr ⟨rfl, rfl, rfl⟩) a56 e57 ?_
  refine z_aload_n (pc := 90) 0 rfl dX10_init_90 rfl ?_
  refine z_sipush (pc := 91) (v := 301) dX10_init_91 (by decide) ?_
  obtain ⟨a59, s58, e60, h⟩ := iNA h
  refine y_newI (pc := 94) (m := 301) (b1 := 17) (b2 := 17864) ac_int dX10_init_94 (by decide) a59 rfl rfl e60 ?_
  obtain ⟨a62, s61, e63, h⟩ := jR h
  refine y_putR (pc := 96) flRX10_42 dX10_init_96 rfl (Or.inr ⟨rfl, rfl, rfl⟩) a62 e63 ?_
  refine z_aload_n (pc := 99) 0 rfl dX10_init_99 rfl ?_
  refine z_sipush (pc := 100) (v := 301) dX10_init_100 (by decide) ?_
  obtain ⟨a65, s64, e66, h⟩ := iNA h
  refine y_newI (pc := 103) (m := 301) (b1 := 16) (b2 := 17563) ac_int dX10_init_103 (by decide) a65 rfl rfl e66 ?_
  obtain ⟨a68, s67, e69, h⟩ := jR h
  refine y_putR (pc := 105) flRX10_45 dX10_init_105 rfl (Or.inr ⟨rfl, rfl, rfl⟩) a68 e69 ?_
  refine z_aload_n (pc := 108) 0 rfl dX10_init_108 rfl ?_
  refine z_sipush (pc := 109) (v := 2000) dX10_init_109 (by decide) ?_
  obtain ⟨a71, s70, e72, h⟩ := iNA h
  refine y_newI (pc := 112) (m := 2000) (b1 := 15) (b2 := 15563) ac_int dX10_init_112 (by decide) a71 rfl rfl e72 ?_
  obtain ⟨a74, s73, e75, h⟩ := jR h
  refine y_putR (pc := 114) flRX10_48 dX10_init_114 rfl (Or.inr ⟨rfl, rfl, rfl⟩) a74 e75 ?_
  refine z_aload_n (pc := 117) 0 rfl dX10_init_117 rfl ?_
  refine z_sipush (pc := 118) (v := 301) dX10_init_118 (by decide) ?_
  obtain ⟨a77, s76, e78, h⟩ := iNA h
  refine y_newZ (pc := 121) (m := 301) (b1 := 14) (b2 := 15262) ac_boolean dX10_init_121 (by decide) a77 rfl rfl e78 ?_
  obtain ⟨a80, s79, e81, h⟩ := jR h
  refine y_putR (pc := 123) flRX10_51 dX10_init_123 rfl (Or.inr ⟨rfl, rfl, rfl⟩) a80 e81 ?_
  refine z_aload_n (pc := 126) 0 rfl dX10_init_126 rfl ?_
  refine z_sipush (pc := 127) (v := 601) dX10_init_127 (by decide) ?_
  obtain ⟨a83, s82, e84, h⟩ := iNA h
  refine y_newI (pc := 130) (m := 601) (b1 := 13) (b2 := 14661) ac_int dX10_init_130 (by decide) a83 rfl rfl e84 ?_
  obtain ⟨a86, s85, e87, h⟩ := jR h
  refine y_putR (pc := 132) flRX10_54 dX10_init_132 rfl (Or.inr ⟨rfl, rfl, rfl⟩) a86 e87 ?_
  refine z_aload_n (pc := 135) 0 rfl dX10_init_135 rfl ?_
  refine z_sipush (pc := 136) (v := 301) dX10_init_136 (by decide) ?_
  obtain ⟨a89, s88, e90, h⟩ := iNA h
  refine y_newI (pc := 139) (m := 301) (b1 := 12) (b2 := 14360) ac_int dX10_init_139 (by decide) a89 rfl rfl e90 ?_
  obtain ⟨a92, s91, e93, h⟩ := jR h
  refine y_putR (pc := 141) flRX10_57 dX10_init_141 rfl (Or.inr ⟨rfl, rfl, rfl⟩) a92 e93 ?_
  refine z_aload_n (pc := 144) 0 rfl dX10_init_144 rfl ?_
  refine z_sipush (pc := 145) (v := 601) dX10_init_145 (by decide) ?_
  obtain ⟨a95, s94, e96, h⟩ := iNA h
  refine y_newZ (pc := 148) (m := 601) (b1 := 11) (b2 := 13759) ac_boolean dX10_init_148 (by decide) a95 rfl rfl e96 ?_
  obtain ⟨a98, s97, e99, h⟩ := jR h
  refine y_putR (pc := 150) flRX10_60 dX10_init_150 rfl (Or.inr ⟨rfl, rfl, rfl⟩) a98 e99 ?_
  refine z_aload_n (pc := 153) 0 rfl dX10_init_153 rfl ?_
  refine z_sipush (pc := 154) (v := 601) dX10_init_154 (by decide) ?_
  obtain ⟨a101, s100, e102, h⟩ := iNA h
  refine y_newZ (pc := 157) (m := 601) (b1 := 10) (b2 := 13158) ac_boolean dX10_init_157 (by decide) a101 rfl rfl e102 ?_
  obtain ⟨a104, s103, e105, h⟩ := jR h
  refine y_putR (pc := 159) flRX10_63 dX10_init_159 rfl (Or.inr ⟨rfl, rfl, rfl⟩) a104 e105 ?_
  refine z_aload_n (pc := 162) 0 rfl dX10_init_162 rfl ?_
  refine z_sipush (pc := 163) (v := 601) dX10_init_163 (by decide) ?_
  obtain ⟨a107, s106, e108, h⟩ := iNA h
  refine y_newZ (pc := 166) (m := 601) (b1 := 9) (b2 := 12557) ac_boolean dX10_init_166 (by decide) a107 rfl rfl e108 ?_
  obtain ⟨a110, s109, e111, h⟩ := jR h
  refine y_putR (pc := 168) flRX10_66 dX10_init_168 rfl (Or.inr ⟨rfl, rfl, rfl⟩) a110 e111 ?_
  refine z_aload_n (pc := 171) 0 rfl dX10_init_171 rfl ?_
  refine z_sipush (pc := 172) (v := 601) dX10_init_172 (by decide) ?_
  obtain ⟨a113, s112, e114, h⟩ := iNA h
  refine y_newZ (pc := 175) (m := 601) (b1 := 8) (b2 := 11956) ac_boolean dX10_init_175 (by decide) a113 rfl rfl e114 ?_
  obtain ⟨a116, s115, e117, h⟩ := jR h
  refine y_putR (pc := 177) flRX10_69 dX10_init_177 rfl (Or.inr ⟨rfl, rfl, rfl⟩) a116 e117 ?_
  refine z_aload_n (pc := 180) 0 rfl dX10_init_180 rfl ?_
  refine z_sipush (pc := 181) (v := 301) dX10_init_181 (by decide) ?_
  obtain ⟨a119, s118, e120, h⟩ := iNA h
  refine y_newI (pc := 184) (m := 301) (b1 := 7) (b2 := 11655) ac_int dX10_init_184 (by decide) a119 rfl rfl e120 ?_
  obtain ⟨a122, s121, e123, h⟩ := jR h
  refine y_putR (pc := 186) flRX10_72 dX10_init_186 rfl (Or.inr ⟨rfl, rfl, rfl⟩) a122 e123 ?_
  refine z_aload_n (pc := 189) 0 rfl dX10_init_189 rfl ?_
  refine z_sipush (pc := 190) (v := 151) dX10_init_190 (by decide) ?_
  obtain ⟨a125, s124, e126, h⟩ := iNA h
  refine y_newI (pc := 193) (m := 151) (b1 := 6) (b2 := 11504) ac_int dX10_init_193 (by decide) a125 rfl rfl e126 ?_
  obtain ⟨a128, s127, e129, h⟩ := jR h
  refine y_putR (pc := 195) flRX10_75 dX10_init_195 rfl (Or.inr ⟨rfl, rfl, rfl⟩) a128 e129 ?_
  refine z_aload_n (pc := 198) 0 rfl dX10_init_198 rfl ?_
  refine z_sipush (pc := 199) (v := 151) dX10_init_199 (by decide) ?_
  obtain ⟨a131, s130, e132, h⟩ := iNA h
  refine y_newI (pc := 202) (m := 151) (b1 := 5) (b2 := 11353) ac_int dX10_init_202 (by decide) a131 rfl rfl e132 ?_
  obtain ⟨a134, s133, e135, h⟩ := jR h
  refine y_putR (pc := 204) flRX10_78 dX10_init_204 rfl (Or.inr ⟨rfl, rfl, rfl⟩) a134 e135 ?_
  refine z_aload_n (pc := 207) 0 rfl dX10_init_207 rfl ?_
  refine z_sipush (pc := 208) (v := 151) dX10_init_208 (by decide) ?_
  obtain ⟨a137, s136, e138, h⟩ := iNA h
  refine y_newI (pc := 211) (m := 151) (b1 := 4) (b2 := 11202) ac_int dX10_init_211 (by decide) a137 rfl rfl e138 ?_
  obtain ⟨a140, s139, e141, h⟩ := jR h
  refine y_putR (pc := 213) flRX10_81 dX10_init_213 rfl (Or.inr ⟨rfl, rfl, rfl⟩) a140 e141 ?_
  refine z_aload_n (pc := 216) 0 rfl dX10_init_216 rfl ?_
  refine z_sipush (pc := 217) (v := 4000) dX10_init_217 (by decide) ?_
  obtain ⟨a143, s142, e144, h⟩ := iNA h
  refine y_newI (pc := 220) (m := 4000) (b1 := 3) (b2 := 7202) ac_int dX10_init_220 (by decide) a143 rfl rfl e144 ?_
  obtain ⟨a146, s145, e147, h⟩ := jR h
  refine y_putR (pc := 222) flRX10_84 dX10_init_222 rfl (Or.inr ⟨rfl, rfl, rfl⟩) a146 e147 ?_
  refine z_aload_n (pc := 225) 0 rfl dX10_init_225 rfl ?_
  refine z_sipush (pc := 226) (v := 601) dX10_init_226 (by decide) ?_
  obtain ⟨a149, s148, e150, h⟩ := iNA h
  refine y_newI (pc := 229) (m := 601) (b1 := 2) (b2 := 6601) ac_int dX10_init_229 (by decide) a149 rfl rfl e150 ?_
  obtain ⟨a152, s151, e153, h⟩ := jR h
  refine y_putR (pc := 231) flRX10_87 dX10_init_231 rfl (Or.inr ⟨rfl, rfl, rfl⟩) a152 e153 ?_
  refine z_aload_n (pc := 234) 0 rfl dX10_init_234 rfl ?_
  refine z_sipush (pc := 235) (v := 601) dX10_init_235 (by decide) ?_
  obtain ⟨a155, s154, e156, h⟩ := iNA h
  refine y_newI (pc := 238) (m := 601) (b1 := 1) (b2 := 6000) ac_int dX10_init_238 (by decide) a155 rfl rfl e156 ?_
  obtain ⟨a158, s157, e159, h⟩ := jR h
  refine y_putR (pc := 240) flRX10_90 dX10_init_240 rfl (Or.inr ⟨rfl, rfl, rfl⟩) a158 e159 ?_
  refine z_aload_n (pc := 243) 0 rfl dX10_init_243 rfl ?_
  refine z_sipush (pc := 244) (v := 6000) dX10_init_244 (by decide) ?_
  obtain ⟨a161, s160, e162, h⟩ := iNA h
  refine y_newI (pc := 247) (m := 6000) (b1 := 0) (b2 := 0) ac_int dX10_init_247 (by decide) a161 rfl rfl e162 ?_
  obtain ⟨a164, s163, e165, h⟩ := jR h
  refine y_putR (pc := 249) flRX10_93 dX10_init_249 rfl (Or.inr ⟨rfl, rfl, rfl⟩) a164 e165 ?_
  exact y_ret (pc := 252) dX10_init_252 rfl h
def fX10_thrown (l0 : Nat) (s : zS) : Option (Int32 × zS) :=
  bnd (qI s 10 l0 0) fun x1 =>
  some (x1, s)
set_option maxRecDepth 100000 in
set_option maxHeartbeats 4000000 in
theorem okX10_thrown {E : zE} {l0 : Nat} {s : zS} {q : Int32 × zS} (h : fX10_thrown l0 s = some q) : Ci E mX10_thrown [.ref l0] s q.1 q.2 := by
  refine Ct.of (ls := [(0, .ref l0)]) (by decide) rfl (Nat.le_of_ble_eq_true rfl) ?_
  show Z E mX10_thrown 0 [(0, .ref l0)] [] s (0, 0) (zRi E mX10_thrown q.1 q.2)
  unfold fX10_thrown at h
  refine z_aload_n (pc := 0) 0 rfl dX10_thrown_0 rfl ?_
  obtain ⟨a2, x1, e3, h⟩ := iI h
  refine y_getI (pc := 1) flRX10_96 dX10_thrown_1 rfl a2 e3 ?_
  exact y_iret (pc := 4) dX10_thrown_4 rfl h
def fX10_fail (l0 : Nat) (s : zS) : Option (Int32 × zS) :=
  bnd (wI s 10 l0 0 1) fun s1 =>
  some (0, s1)
set_option maxRecDepth 100000 in
set_option maxHeartbeats 4000000 in
theorem okX10_fail {E : zE} {l0 : Nat} {s : zS} {q : Int32 × zS} (h : fX10_fail l0 s = some q) : Ci E mX10_fail [.ref l0] s q.1 q.2 := by
  refine Ct.of (ls := [(0, .ref l0)]) (by decide) rfl (Nat.le_of_ble_eq_true rfl) ?_
  show Z E mX10_fail 0 [(0, .ref l0)] [] s (0, 0) (zRi E mX10_fail q.1 q.2)
  unfold fX10_fail at h
  refine z_aload_n (pc := 0) 0 rfl dX10_fail_0 rfl ?_
  refine z_iconst (pc := 1) (v := 1) dX10_fail_1 (by decide) ?_
  obtain ⟨a2, s1, e3, h⟩ := jI h
  refine y_putI (pc := 2) flRX10_96 dX10_fail_2 rfl (Or.inl rfl) a2 e3 ?_
  refine z_iconst (pc := 5) (v := 0) dX10_fail_5 (by decide) ?_
  exact y_iret (pc := 6) dX10_fail_6 rfl h
def fX10_feed_76 (k23 : Nat → Int32 → Int32 → Int32 → Int32 → Int32 → Int32 → zS → Option (Int32 × zS)) (l0 : Nat) (l1 : Int32) (l2 : Int32) (l3 : Int32) (l4 : Int32) (l5 : Int32) (l6 : Int32) (t0 : Int32) (s : zS) : Option (Int32 × zS) :=
  bnd (qR s 10 l0 1) fun x10 =>
  bnd (qI s 10 l0 2) fun x13 =>
  bnd (uI s x10 x13 ((t0 >>> ((24 - (8 * (l6 - l6 / 4 * 4))) &&& 31)) &&& 255)) fun s16 =>
  bnd (qI s16 10 l0 2) fun x19 =>
  bnd (wI s16 10 l0 2 (x19 + 1)) fun s22 =>
  k23 l0 l1 l2 l3 l4 l5 (l6 + 1) s22
set_option maxRecDepth 100000 in
set_option maxHeartbeats 4000000 in
theorem bX10_feed_76 {E : zE} {k23 : Nat → Int32 → Int32 → Int32 → Int32 → Int32 → Int32 → zS → Option (Int32 × zS)} (hk23 : ∀ {l0 : Nat} {l1 : Int32} {l2 : Int32} {l3 : Int32} {l4 : Int32} {l5 : Int32} {l6 : Int32} {s : zS} {q : Int32 × zS}, k23 l0 l1 l2 l3 l4 l5 l6 s = some q → Z E mX10_feed 23 [(0, .ref l0), (1, .int l1), (2, .int l2), (3, .int l3), (4, .int l4), (5, .int l5), (6, .int l6)] [] s (0, 0) (zRi E mX10_feed q.1 q.2)) {l0 : Nat} {l1 : Int32} {l2 : Int32} {l3 : Int32} {l4 : Int32} {l5 : Int32} {l6 : Int32} {t0 : Int32} {s : zS} {q : Int32 × zS} (h : fX10_feed_76 k23 l0 l1 l2 l3 l4 l5 l6 t0 s = some q) : Z E mX10_feed 76 [(0, .ref l0), (1, .int l1), (2, .int l2), (3, .int l3), (4, .int l4), (5, .int l5), (6, .int l6)] [.int t0] s (0, 0) (zRi E mX10_feed q.1 q.2) := by
  unfold fX10_feed_76 at h
  refine z_istore (pc := 76) (ls' := [(7, .int t0), (0, .ref l0), (1, .int l1), (2, .int l2), (3, .int l3), (4, .int l4), (5, .int l5), (6, .int l6)]) dX10_feed_76 (by decide) (fun _ => rfl) ?_
  refine z_aload_n (pc := 78) 1 rfl dX10_feed_78 rfl ?_
  obtain ⟨a11, x10, e12, h⟩ := iR h
  refine y_getR (pc := 79) flRX10_9 dX10_feed_79 rfl a11 e12 ?_
  refine z_aload_n (pc := 82) 1 rfl dX10_feed_82 rfl ?_
  obtain ⟨a14, x13, e15, h⟩ := iI h
  refine y_getI (pc := 83) flRX10_99 dX10_feed_83 rfl a14 e15 ?_
  refine z_iload (pc := 86) 0 rfl dX10_feed_86 ?_
  refine z_bipush (pc := 88) (v := 24) dX10_feed_88 (by decide) ?_
  refine z_bipush (pc := 90) (v := 8) dX10_feed_90 (by decide) ?_
  refine z_iload (pc := 92) 7 rfl dX10_feed_92 ?_
  refine z_iconst (pc := 94) (v := 4) dX10_feed_94 (by decide) ?_
  refine z_irem (pc := 95) (by decide) dX10_feed_95 ?_
  refine z_imul (pc := 96) dX10_feed_96 ?_
  refine z_isub (pc := 97) dX10_feed_97 ?_
  refine z_ishr (pc := 98) dX10_feed_98 ?_
  refine z_sipush (pc := 99) (v := 255) dX10_feed_99 (by decide) ?_
  refine z_iand (pc := 102) dX10_feed_102 ?_
  obtain ⟨a17, s16, e18, h⟩ := kI h
  refine y_iast (pc := 103) dX10_feed_103 a17 e18 ?_
  refine z_aload_n (pc := 104) 1 rfl dX10_feed_104 rfl ?_
  refine z_dup (pc := 105) dX10_feed_105 (fun _ => rfl) ?_
  obtain ⟨a20, x19, e21, h⟩ := iI h
  refine y_getI (pc := 106) flRX10_99 dX10_feed_106 rfl a20 e21 ?_
  refine z_iconst (pc := 109) (v := 1) dX10_feed_109 (by decide) ?_
  refine z_iadd (pc := 110) dX10_feed_110 ?_
  obtain ⟨a23, s22, e24, h⟩ := jI h
  refine y_putI (pc := 111) flRX10_99 dX10_feed_111 rfl (Or.inl rfl) a23 e24 ?_
  refine z_iinc (pc := 114) (v := (l6 + 1)) (ls' := [(6, .int (l6 + 1)), (7, .int t0), (0, .ref l0), (1, .int l1), (2, .int l2), (3, .int l3), (4, .int l4), (5, .int l5)]) 7 rfl rfl dX10_feed_114 (by decide) (fun _ => rfl) ?_
  refine z_goto (pc := 117) (tgt := 23) dX10_feed_117 (by decide) ?_
  exact z_sub [2, 3, 4, 5, 6, 7, 0] rfl (hk23 h)
def fX10_feed_23  (n : Nat) : Nat → Int32 → Int32 → Int32 → Int32 → Int32 → Int32 → zS → Option (Int32 × zS) := match n with
  | 0 => fun _ _ _ _ _ _ _ _ => none
  | n + 1 => fun l0 l1 l2 l3 l4 l5 l6 s =>
    if 20 ≤ l6 then
      bnd (qI s 10 l0 2) fun x7 =>
      some (x7, s)
    else
      if 4 ≤ l6 then
        if 8 ≤ l6 then
          if 12 ≤ l6 then
            if 16 ≤ l6 then
              fX10_feed_76 ((fX10_feed_23  n)) l0 l1 l2 l3 l4 l5 l6 l5 s
            else
              fX10_feed_76 ((fX10_feed_23  n)) l0 l1 l2 l3 l4 l5 l6 l4 s
          else
            fX10_feed_76 ((fX10_feed_23  n)) l0 l1 l2 l3 l4 l5 l6 l3 s
        else
          fX10_feed_76 ((fX10_feed_23  n)) l0 l1 l2 l3 l4 l5 l6 l2 s
      else
        fX10_feed_76 ((fX10_feed_23  n)) l0 l1 l2 l3 l4 l5 l6 l1 s
set_option maxRecDepth 100000 in
set_option maxHeartbeats 4000000 in
theorem bX10_feed_23 {E : zE}  : ∀ (n : Nat) {l0 : Nat} {l1 : Int32} {l2 : Int32} {l3 : Int32} {l4 : Int32} {l5 : Int32} {l6 : Int32} {s : zS} {q : Int32 × zS}, fX10_feed_23  n l0 l1 l2 l3 l4 l5 l6 s = some q → Z E mX10_feed 23 [(0, .ref l0), (1, .int l1), (2, .int l2), (3, .int l3), (4, .int l4), (5, .int l5), (6, .int l6)] [] s (0, 0) (zRi E mX10_feed q.1 q.2) := by
  intro n
  induction n with
  | zero => intro l0 l1 l2 l3 l4 l5 l6 s q h; cases h
  | succ n ih =>
    intro l0 l1 l2 l3 l4 l5 l6 s q h
    unfold fX10_feed_23 at h
    refine z_iload (pc := 23) 6 rfl dX10_feed_23 ?_
    refine z_bipush (pc := 25) (v := 20) dX10_feed_25 (by decide) ?_
    refine z_icmp_ge (pc := 27) (tgt := 120) dX10_feed_27 (by decide) (fun hc => ?_) (fun hc => ?_)
    · replace h := ifp hc h
      refine z_aload_n (pc := 120) 0 rfl dX10_feed_120 rfl ?_
      obtain ⟨a8, x7, e9, h⟩ := iI h
      refine y_getI (pc := 121) flRX10_99 dX10_feed_121 rfl a8 e9 ?_
      exact y_iret (pc := 124) dX10_feed_124 rfl h
    · replace h := ifn hc h
      refine z_iload (pc := 30) 6 rfl dX10_feed_30 ?_
      refine z_iconst (pc := 32) (v := 4) dX10_feed_32 (by decide) ?_
      refine z_icmp_ge (pc := 33) (tgt := 40) dX10_feed_33 (by decide) (fun hc => ?_) (fun hc => ?_)
      · replace h := ifp hc h
        refine z_iload (pc := 40) 6 rfl dX10_feed_40 ?_
        refine z_bipush (pc := 42) (v := 8) dX10_feed_42 (by decide) ?_
        refine z_icmp_ge (pc := 44) (tgt := 51) dX10_feed_44 (by decide) (fun hc => ?_) (fun hc => ?_)
        · replace h := ifp hc h
          refine z_iload (pc := 51) 6 rfl dX10_feed_51 ?_
          refine z_bipush (pc := 53) (v := 12) dX10_feed_53 (by decide) ?_
          refine z_icmp_ge (pc := 55) (tgt := 62) dX10_feed_55 (by decide) (fun hc => ?_) (fun hc => ?_)
          · replace h := ifp hc h
            refine z_iload (pc := 62) 6 rfl dX10_feed_62 ?_
            refine z_bipush (pc := 64) (v := 16) dX10_feed_64 (by decide) ?_
            refine z_icmp_ge (pc := 66) (tgt := 74) dX10_feed_66 (by decide) (fun hc => ?_) (fun hc => ?_)
            · replace h := ifp hc h
              refine z_iload (pc := 74) 5 rfl dX10_feed_74 ?_
              exact z_sub [0, 1, 2, 3, 4, 5, 6] rfl (bX10_feed_76 (fun h => ih h) h)
            · replace h := ifn hc h
              refine z_iload (pc := 69) 4 rfl dX10_feed_69 ?_
              refine z_goto (pc := 71) (tgt := 76) dX10_feed_71 (by decide) ?_
              exact z_sub [0, 1, 2, 3, 4, 5, 6] rfl (bX10_feed_76 (fun h => ih h) h)
          · replace h := ifn hc h
            refine z_iload_n (pc := 58) 3 rfl dX10_feed_58 rfl ?_
            refine z_goto (pc := 59) (tgt := 76) dX10_feed_59 (by decide) ?_
            exact z_sub [0, 1, 2, 3, 4, 5, 6] rfl (bX10_feed_76 (fun h => ih h) h)
        · replace h := ifn hc h
          refine z_iload_n (pc := 47) 2 rfl dX10_feed_47 rfl ?_
          refine z_goto (pc := 48) (tgt := 76) dX10_feed_48 (by decide) ?_
          exact z_sub [0, 1, 2, 3, 4, 5, 6] rfl (bX10_feed_76 (fun h => ih h) h)
      · replace h := ifn hc h
        refine z_iload_n (pc := 36) 1 rfl dX10_feed_36 rfl ?_
        refine z_goto (pc := 37) (tgt := 76) dX10_feed_37 (by decide) ?_
        exact z_sub [0, 1, 2, 3, 4, 5, 6] rfl (bX10_feed_76 (fun h => ih h) h)
def fX10_feed (l0 : Nat) (l1 : Int32) (l2 : Int32) (l3 : Int32) (l4 : Int32) (l5 : Int32) (s : zS) : Option (Int32 × zS) :=
  bnd (wI s 10 l0 0 0) fun s1 =>
  bnd (qI s1 10 l0 2) fun x4 =>
  if (x4 + 20) ≤ 6000 then
    fX10_feed_23  zfu l0 l1 l2 l3 l4 l5 0 s1
  else
    some ((-1), s1)
set_option maxRecDepth 100000 in
set_option maxHeartbeats 4000000 in
theorem okX10_feed {E : zE} {l0 : Nat} {l1 : Int32} {l2 : Int32} {l3 : Int32} {l4 : Int32} {l5 : Int32} {s : zS} {q : Int32 × zS} (h : fX10_feed l0 l1 l2 l3 l4 l5 s = some q) : Ci E mX10_feed [.ref l0, .int l1, .int l2, .int l3, .int l4, .int l5] s q.1 q.2 := by
  refine Ct.of (ls := [(0, .ref l0), (1, .int l1), (2, .int l2), (3, .int l3), (4, .int l4), (5, .int l5)]) (by decide) rfl (Nat.le_of_ble_eq_true rfl) ?_
  show Z E mX10_feed 0 [(0, .ref l0), (1, .int l1), (2, .int l2), (3, .int l3), (4, .int l4), (5, .int l5)] [] s (0, 0) (zRi E mX10_feed q.1 q.2)
  unfold fX10_feed at h
  refine z_aload_n (pc := 0) 0 rfl dX10_feed_0 rfl ?_
  refine z_iconst (pc := 1) (v := 0) dX10_feed_1 (by decide) ?_
  obtain ⟨a2, s1, e3, h⟩ := jI h
  refine y_putI (pc := 2) flRX10_96 dX10_feed_2 rfl (Or.inl rfl) a2 e3 ?_
  refine z_aload_n (pc := 5) 0 rfl dX10_feed_5 rfl ?_
  obtain ⟨a5, x4, e6, h⟩ := iI h
  refine y_getI (pc := 6) flRX10_99 dX10_feed_6 rfl a5 e6 ?_
  refine z_bipush (pc := 9) (v := 20) dX10_feed_9 (by decide) ?_
  refine z_iadd (pc := 11) dX10_feed_11 ?_
  refine z_sipush (pc := 12) (v := 6000) dX10_feed_12 (by decide) ?_
  refine z_icmp_le (pc := 15) (tgt := 20) dX10_feed_15 (by decide) (fun hc => ?_) (fun hc => ?_)
  · replace h := ifp hc h
    refine z_iconst (pc := 20) (v := 0) dX10_feed_20 (by decide) ?_
    refine z_istore (pc := 21) (ls' := [(6, .int 0), (0, .ref l0), (1, .int l1), (2, .int l2), (3, .int l3), (4, .int l4), (5, .int l5)]) dX10_feed_21 (by decide) (fun _ => rfl) ?_
    exact z_sub [1, 2, 3, 4, 5, 6, 0] rfl (bX10_feed_23  _ h)
  · replace h := ifn hc h
    refine z_iconst (pc := 18) (v := (-1)) dX10_feed_18 (by decide) ?_
    exact y_iret (pc := 19) dX10_feed_19 rfl h
def fX10_wrong (l0 : Nat) (l1 : Int32) (l2 : Int32) (s : zS) : Option zS :=
  bnd (qI s 10 l0 8) fun x1 =>
  if x1 = 0 then
    bnd (wI s 10 l0 8 l1) fun s4 =>
    bnd (wI s4 10 l0 9 l2) fun s7 =>
    some s7
  else
    some s
set_option maxRecDepth 100000 in
set_option maxHeartbeats 4000000 in
theorem okX10_wrong {E : zE} {l0 : Nat} {l1 : Int32} {l2 : Int32} {s : zS} {t : zS} (h : fX10_wrong l0 l1 l2 s = some t) : Cv E mX10_wrong [.ref l0, .int l1, .int l2] s t := by
  refine Ct.of (ls := [(0, .ref l0), (1, .int l1), (2, .int l2)]) (by decide) rfl (Nat.le_of_ble_eq_true rfl) ?_
  show Z E mX10_wrong 0 [(0, .ref l0), (1, .int l1), (2, .int l2)] [] s (0, 0) (zRv E mX10_wrong t)
  unfold fX10_wrong at h
  refine z_aload_n (pc := 0) 0 rfl dX10_wrong_0 rfl ?_
  obtain ⟨a2, x1, e3, h⟩ := iI h
  refine y_getI (pc := 1) flRX10_102 dX10_wrong_1 rfl a2 e3 ?_
  refine z_if_eq (pc := 4) (tgt := 8) dX10_wrong_4 (by decide) (fun hc => ?_) (fun hc => ?_)
  · replace h := ifp hc h
    refine z_aload_n (pc := 8) 0 rfl dX10_wrong_8 rfl ?_
    refine z_iload_n (pc := 9) 1 rfl dX10_wrong_9 rfl ?_
    obtain ⟨a5, s4, e6, h⟩ := jI h
    refine y_putI (pc := 10) flRX10_102 dX10_wrong_10 rfl (Or.inl rfl) a5 e6 ?_
    refine z_aload_n (pc := 13) 0 rfl dX10_wrong_13 rfl ?_
    refine z_iload_n (pc := 14) 2 rfl dX10_wrong_14 rfl ?_
    obtain ⟨a8, s7, e9, h⟩ := jI h
    refine y_putI (pc := 15) flRX10_105 dX10_wrong_15 rfl (Or.inl rfl) a8 e9 ?_
    exact y_ret (pc := 18) dX10_wrong_18 rfl h
  · replace h := ifn hc h
    exact y_ret (pc := 7) dX10_wrong_7 rfl h
def fX10_isBlank (l0 : Int32) (s : zS) : Option (Int32 × zS) :=
  if l0 = 32 then
    gd ((1 : Int32) = 0 ∨ 1 = 1) (some (1, s))
  else
    if l0 = 9 then
      gd ((1 : Int32) = 0 ∨ 1 = 1) (some (1, s))
    else
      if l0 = 13 then
        gd ((1 : Int32) = 0 ∨ 1 = 1) (some (1, s))
      else
        if l0 = 10 then
          gd ((1 : Int32) = 0 ∨ 1 = 1) (some (1, s))
        else
          gd ((0 : Int32) = 0 ∨ 0 = 1) (some (0, s))
set_option maxRecDepth 100000 in
set_option maxHeartbeats 4000000 in
theorem okX10_isBlank {E : zE} {l0 : Int32} {s : zS} {q : Int32 × zS} (h : fX10_isBlank l0 s = some q) : Ci E mX10_isBlank [.int l0] s q.1 q.2 := by
  refine Ct.of (ls := [(0, .int l0)]) (by decide) rfl (Nat.le_of_ble_eq_true rfl) ?_
  show Z E mX10_isBlank 0 [(0, .int l0)] [] s (0, 0) (zRi E mX10_isBlank q.1 q.2)
  unfold fX10_isBlank at h
  refine z_iload_n (pc := 0) 0 rfl dX10_isBlank_0 rfl ?_
  refine z_bipush (pc := 1) (v := 32) dX10_isBlank_1 (by decide) ?_
  refine z_icmp_eq (pc := 3) (tgt := 24) dX10_isBlank_3 (by decide) (fun hc => ?_) (fun hc => ?_)
  · replace h := ifp hc h
    refine z_iconst (pc := 24) (v := 1) dX10_isBlank_24 (by decide) ?_
    refine z_goto (pc := 25) (tgt := 29) dX10_isBlank_25 (by decide) ?_
    exact y_zret (pc := 29) dX10_isBlank_29 rfl h
  · replace h := ifn hc h
    refine z_iload_n (pc := 6) 0 rfl dX10_isBlank_6 rfl ?_
    refine z_bipush (pc := 7) (v := 9) dX10_isBlank_7 (by decide) ?_
    refine z_icmp_eq (pc := 9) (tgt := 24) dX10_isBlank_9 (by decide) (fun hc => ?_) (fun hc => ?_)
    · replace h := ifp hc h
      refine z_iconst (pc := 24) (v := 1) dX10_isBlank_24 (by decide) ?_
      refine z_goto (pc := 25) (tgt := 29) dX10_isBlank_25 (by decide) ?_
      exact y_zret (pc := 29) dX10_isBlank_29 rfl h
    · replace h := ifn hc h
      refine z_iload_n (pc := 12) 0 rfl dX10_isBlank_12 rfl ?_
      refine z_bipush (pc := 13) (v := 13) dX10_isBlank_13 (by decide) ?_
      refine z_icmp_eq (pc := 15) (tgt := 24) dX10_isBlank_15 (by decide) (fun hc => ?_) (fun hc => ?_)
      · replace h := ifp hc h
        refine z_iconst (pc := 24) (v := 1) dX10_isBlank_24 (by decide) ?_
        refine z_goto (pc := 25) (tgt := 29) dX10_isBlank_25 (by decide) ?_
        exact y_zret (pc := 29) dX10_isBlank_29 rfl h
      · replace h := ifn hc h
        refine z_iload_n (pc := 18) 0 rfl dX10_isBlank_18 rfl ?_
        refine z_bipush (pc := 19) (v := 10) dX10_isBlank_19 (by decide) ?_
        refine z_icmp_ne (pc := 21) (tgt := 28) dX10_isBlank_21 (by decide) (fun hc => ?_) (fun hc => ?_)
        · replace h := ifn hc h
          refine z_iconst (pc := 28) (v := 0) dX10_isBlank_28 (by decide) ?_
          exact y_zret (pc := 29) dX10_isBlank_29 rfl h
        · replace h := ifp hc h
          refine z_iconst (pc := 24) (v := 1) dX10_isBlank_24 (by decide) ?_
          refine z_goto (pc := 25) (tgt := 29) dX10_isBlank_25 (by decide) ?_
          exact y_zret (pc := 29) dX10_isBlank_29 rfl h
def fX10_next_187  (l0 : Nat) (s : zS) : Option (Int32 × zS) :=
  bnd (qI s 10 l0 5) fun x13 =>
  bnd (wI s 10 l0 7 x13) fun s16 =>
  bnd (qI s16 10 l0 6) fun x19 =>
  bnd (qI s16 10 l0 7) fun x22 =>
  if x22 ≤ x19 then
    gd ((0 : Int32) = 0 ∨ 0 = 1) (some (0, s16))
  else
    gd ((1 : Int32) = 0 ∨ 1 = 1) (some (1, s16))
set_option maxRecDepth 100000 in
set_option maxHeartbeats 4000000 in
theorem bX10_next_187 {E : zE}   {l0 : Nat} {s : zS} {q : Int32 × zS} (h : fX10_next_187  l0 s = some q) : Z E mX10_next 187 [(0, .ref l0)] [] s (0, 0) (zRi E mX10_next q.1 q.2) := by
  unfold fX10_next_187 at h
  refine z_aload_n (pc := 187) 0 rfl dX10_next_187 rfl ?_
  refine z_aload_n (pc := 188) 0 rfl dX10_next_188 rfl ?_
  obtain ⟨a14, x13, e15, h⟩ := iI h
  refine y_getI (pc := 189) flRX10_108 dX10_next_189 rfl a14 e15 ?_
  obtain ⟨a17, s16, e18, h⟩ := jI h
  refine y_putI (pc := 192) flRX10_121 dX10_next_192 rfl (Or.inl rfl) a17 e18 ?_
  refine z_aload_n (pc := 195) 0 rfl dX10_next_195 rfl ?_
  obtain ⟨a20, x19, e21, h⟩ := iI h
  refine y_getI (pc := 196) flRX10_118 dX10_next_196 rfl a20 e21 ?_
  refine z_aload_n (pc := 199) 0 rfl dX10_next_199 rfl ?_
  obtain ⟨a23, x22, e24, h⟩ := iI h
  refine y_getI (pc := 200) flRX10_121 dX10_next_200 rfl a23 e24 ?_
  refine z_icmp_ge (pc := 203) (tgt := 210) dX10_next_203 (by decide) (fun hc => ?_) (fun hc => ?_)
  · replace h := ifp hc h
    refine z_iconst (pc := 210) (v := 0) dX10_next_210 (by decide) ?_
    exact y_zret (pc := 211) dX10_next_211 rfl h
  · replace h := ifn hc h
    refine z_iconst (pc := 206) (v := 1) dX10_next_206 (by decide) ?_
    refine z_goto (pc := 207) (tgt := 211) dX10_next_207 (by decide) ?_
    exact y_zret (pc := 211) dX10_next_211 rfl h
def fX10_next_148  (n : Nat) : Nat → zS → Option (Int32 × zS) := match n with
  | 0 => fun _ _ => none
  | n + 1 => fun l0 s =>
    bnd (qI s 10 l0 5) fun x7 =>
    bnd (qI s 10 l0 4) fun x10 =>
    if x10 ≤ x7 then
      fX10_next_187  l0 s
    else
      bnd (qR s 10 l0 3) fun x13 =>
      bnd (qI s 10 l0 5) fun x16 =>
      bnd (qA s 12 x13 x16) fun x19 =>
      bnd (fX10_isBlank x19 s) fun q22 =>
      if q22.1 = 0 then
        bnd (qI q22.2 10 l0 5) fun x25 =>
        bnd (wI q22.2 10 l0 5 (x25 + 1)) fun s28 =>
        (fX10_next_148  n) l0 s28
      else
        fX10_next_187  l0 q22.2
set_option maxRecDepth 100000 in
set_option maxHeartbeats 4000000 in
theorem bX10_next_148 {E : zE}  : ∀ (n : Nat) {l0 : Nat} {s : zS} {q : Int32 × zS}, fX10_next_148  n l0 s = some q → Z E mX10_next 148 [(0, .ref l0)] [] s (0, 0) (zRi E mX10_next q.1 q.2) := by
  intro n
  induction n with
  | zero => intro l0 s q h; cases h
  | succ n ih =>
    intro l0 s q h
    unfold fX10_next_148 at h
    refine z_aload_n (pc := 148) 0 rfl dX10_next_148 rfl ?_
    obtain ⟨a8, x7, e9, h⟩ := iI h
    refine y_getI (pc := 149) flRX10_108 dX10_next_149 rfl a8 e9 ?_
    refine z_aload_n (pc := 152) 0 rfl dX10_next_152 rfl ?_
    obtain ⟨a11, x10, e12, h⟩ := iI h
    refine y_getI (pc := 153) flRX10_111 dX10_next_153 rfl a11 e12 ?_
    refine z_icmp_ge (pc := 156) (tgt := 187) dX10_next_156 (by decide) (fun hc => ?_) (fun hc => ?_)
    · replace h := ifp hc h
      exact z_sub [0] rfl (bX10_next_187  h)
    · replace h := ifn hc h
      refine z_aload_n (pc := 159) 0 rfl dX10_next_159 rfl ?_
      obtain ⟨a14, x13, e15, h⟩ := iR h
      refine y_getR (pc := 160) flRX10_13 dX10_next_160 rfl a14 e15 ?_
      refine z_aload_n (pc := 163) 0 rfl dX10_next_163 rfl ?_
      obtain ⟨a17, x16, e18, h⟩ := iI h
      refine y_getI (pc := 164) flRX10_108 dX10_next_164 rfl a17 e18 ?_
      obtain ⟨a20, x19, e21, h⟩ := iA h
      refine y_iald (pc := 167) dX10_next_167 a20 e21 ?_
      obtain ⟨q22, e24, h⟩ := bnd_i h
      refine y_Si (pc := 168) (M2 := mX10_isBlank) (As := [.int x19]) (okX10_isBlank e24) mqX10_isBlank msX10_isBlank mlRX10_114 dX10_next_168 ⟨by decide, by decide⟩ rfl rfl rfl zrest0 ?_
      refine z_if_ne (pc := 171) (tgt := 187) dX10_next_171 (by decide) (fun hc => ?_) (fun hc => ?_)
      · replace h := ifn hc h
        exact z_sub [0] rfl (bX10_next_187  h)
      · replace h := ifp hc h
        refine z_aload_n (pc := 174) 0 rfl dX10_next_174 rfl ?_
        refine z_dup (pc := 175) dX10_next_175 (fun _ => rfl) ?_
        obtain ⟨a26, x25, e27, h⟩ := iI h
        refine y_getI (pc := 176) flRX10_108 dX10_next_176 rfl a26 e27 ?_
        refine z_iconst (pc := 179) (v := 1) dX10_next_179 (by decide) ?_
        refine z_iadd (pc := 180) dX10_next_180 ?_
        obtain ⟨a29, s28, e30, h⟩ := jI h
        refine y_putI (pc := 181) flRX10_108 dX10_next_181 rfl (Or.inl rfl) a29 e30 ?_
        refine z_goto (pc := 184) (tgt := 148) dX10_next_184 (by decide) ?_
        exact z_sub [0] rfl (ih h)
def fX10_next_99 (k2 : Nat → Int32 → zS → Option (Int32 × zS)) (l0 : Nat) (l1 : Int32) (s : zS) : Option (Int32 × zS) :=
  bnd (qI s 10 l0 5) fun x13 =>
  bnd (qI s 10 l0 4) fun x16 =>
  if x16 ≤ x13 then
    k2 l0 l1 s
  else
    bnd (qR s 10 l0 3) fun x19 =>
    bnd (qI s 10 l0 5) fun x22 =>
    bnd (qA s 12 x19 x22) fun x25 =>
    bnd (fX10_isBlank x25 s) fun q28 =>
    if q28.1 = 0 then
      k2 l0 l1 q28.2
    else
      bnd (qI q28.2 10 l0 5) fun x31 =>
      bnd (wI q28.2 10 l0 5 (x31 + 1)) fun s34 =>
      k2 l0 1 s34
set_option maxRecDepth 100000 in
set_option maxHeartbeats 4000000 in
theorem bX10_next_99 {E : zE} {k2 : Nat → Int32 → zS → Option (Int32 × zS)} (hk2 : ∀ {l0 : Nat} {l1 : Int32} {s : zS} {q : Int32 × zS}, k2 l0 l1 s = some q → Z E mX10_next 2 [(0, .ref l0), (1, .int l1)] [] s (0, 0) (zRi E mX10_next q.1 q.2)) {l0 : Nat} {l1 : Int32} {s : zS} {q : Int32 × zS} (h : fX10_next_99 k2 l0 l1 s = some q) : Z E mX10_next 99 [(0, .ref l0), (1, .int l1)] [] s (0, 0) (zRi E mX10_next q.1 q.2) := by
  unfold fX10_next_99 at h
  refine z_aload_n (pc := 99) 0 rfl dX10_next_99 rfl ?_
  obtain ⟨a14, x13, e15, h⟩ := iI h
  refine y_getI (pc := 100) flRX10_108 dX10_next_100 rfl a14 e15 ?_
  refine z_aload_n (pc := 103) 0 rfl dX10_next_103 rfl ?_
  obtain ⟨a17, x16, e18, h⟩ := iI h
  refine y_getI (pc := 104) flRX10_111 dX10_next_104 rfl a17 e18 ?_
  refine z_icmp_ge (pc := 107) (tgt := 2) dX10_next_107 (by decide) (fun hc => ?_) (fun hc => ?_)
  · replace h := ifp hc h
    exact z_sub [0, 1] rfl (hk2 h)
  · replace h := ifn hc h
    refine z_aload_n (pc := 110) 0 rfl dX10_next_110 rfl ?_
    obtain ⟨a20, x19, e21, h⟩ := iR h
    refine y_getR (pc := 111) flRX10_13 dX10_next_111 rfl a20 e21 ?_
    refine z_aload_n (pc := 114) 0 rfl dX10_next_114 rfl ?_
    obtain ⟨a23, x22, e24, h⟩ := iI h
    refine y_getI (pc := 115) flRX10_108 dX10_next_115 rfl a23 e24 ?_
    obtain ⟨a26, x25, e27, h⟩ := iA h
    refine y_iald (pc := 118) dX10_next_118 a26 e27 ?_
    obtain ⟨q28, e30, h⟩ := bnd_i h
    refine y_Si (pc := 119) (M2 := mX10_isBlank) (As := [.int x25]) (okX10_isBlank e30) mqX10_isBlank msX10_isBlank mlRX10_114 dX10_next_119 ⟨by decide, by decide⟩ rfl rfl rfl zrest0 ?_
    refine z_if_eq (pc := 122) (tgt := 2) dX10_next_122 (by decide) (fun hc => ?_) (fun hc => ?_)
    · replace h := ifp hc h
      exact z_sub [0, 1] rfl (hk2 h)
    · replace h := ifn hc h
      refine z_aload_n (pc := 125) 0 rfl dX10_next_125 rfl ?_
      refine z_dup (pc := 126) dX10_next_126 (fun _ => rfl) ?_
      obtain ⟨a32, x31, e33, h⟩ := iI h
      refine y_getI (pc := 127) flRX10_108 dX10_next_127 rfl a32 e33 ?_
      refine z_iconst (pc := 130) (v := 1) dX10_next_130 (by decide) ?_
      refine z_iadd (pc := 131) dX10_next_131 ?_
      obtain ⟨a35, s34, e36, h⟩ := jI h
      refine y_putI (pc := 132) flRX10_108 dX10_next_132 rfl (Or.inl rfl) a35 e36 ?_
      refine z_iconst (pc := 135) (v := 1) dX10_next_135 (by decide) ?_
      refine z_istore_n (pc := 136) (ls' := [(1, .int 1), (0, .ref l0)]) dX10_next_136 rfl (by decide) (fun _ => rfl) ?_
      refine z_goto (pc := 137) (tgt := 2) dX10_next_137 (by decide) ?_
      exact z_sub [1, 0] rfl (hk2 h)
def fX10_next_94 (k2 : Nat → Int32 → zS → Option (Int32 × zS)) (l0 : Nat) (s : zS) : Option (Int32 × zS) :=
  k2 l0 1 s
set_option maxRecDepth 100000 in
set_option maxHeartbeats 4000000 in
theorem bX10_next_94 {E : zE} {k2 : Nat → Int32 → zS → Option (Int32 × zS)} (hk2 : ∀ {l0 : Nat} {l1 : Int32} {s : zS} {q : Int32 × zS}, k2 l0 l1 s = some q → Z E mX10_next 2 [(0, .ref l0), (1, .int l1)] [] s (0, 0) (zRi E mX10_next q.1 q.2)) {l0 : Nat} {s : zS} {q : Int32 × zS} (h : fX10_next_94 k2 l0 s = some q) : Z E mX10_next 94 [(0, .ref l0)] [] s (0, 0) (zRi E mX10_next q.1 q.2) := by
  unfold fX10_next_94 at h
  refine z_iconst (pc := 94) (v := 1) dX10_next_94 (by decide) ?_
  refine z_istore_n (pc := 95) (ls' := [(1, .int 1), (0, .ref l0)]) dX10_next_95 rfl (by decide) (fun _ => rfl) ?_
  refine z_goto (pc := 96) (tgt := 2) dX10_next_96 (by decide) ?_
  exact z_sub [1, 0] rfl (hk2 h)
def fX10_next_56 (k2 : Nat → Int32 → zS → Option (Int32 × zS)) (n : Nat) : Nat → zS → Option (Int32 × zS) := match n with
  | 0 => fun _ _ => none
  | n + 1 => fun l0 s =>
    bnd (qI s 10 l0 5) fun x25 =>
    bnd (qI s 10 l0 4) fun x28 =>
    if x28 ≤ x25 then
      fX10_next_94 (k2) l0 s
    else
      bnd (qR s 10 l0 3) fun x31 =>
      bnd (qI s 10 l0 5) fun x34 =>
      bnd (qA s 12 x31 x34) fun x37 =>
      if x37 = 10 then
        fX10_next_94 (k2) l0 s
      else
        bnd (qI s 10 l0 5) fun x40 =>
        bnd (wI s 10 l0 5 (x40 + 1)) fun s43 =>
        (fX10_next_56 k2 n) l0 s43
set_option maxRecDepth 100000 in
set_option maxHeartbeats 4000000 in
theorem bX10_next_56 {E : zE} {k2 : Nat → Int32 → zS → Option (Int32 × zS)} (hk2 : ∀ {l0 : Nat} {l1 : Int32} {s : zS} {q : Int32 × zS}, k2 l0 l1 s = some q → Z E mX10_next 2 [(0, .ref l0), (1, .int l1)] [] s (0, 0) (zRi E mX10_next q.1 q.2)) : ∀ (n : Nat) {l0 : Nat} {s : zS} {q : Int32 × zS}, fX10_next_56 k2 n l0 s = some q → Z E mX10_next 56 [(0, .ref l0)] [] s (0, 0) (zRi E mX10_next q.1 q.2) := by
  intro n
  induction n with
  | zero => intro l0 s q h; cases h
  | succ n ih =>
    intro l0 s q h
    unfold fX10_next_56 at h
    refine z_aload_n (pc := 56) 0 rfl dX10_next_56 rfl ?_
    obtain ⟨a26, x25, e27, h⟩ := iI h
    refine y_getI (pc := 57) flRX10_108 dX10_next_57 rfl a26 e27 ?_
    refine z_aload_n (pc := 60) 0 rfl dX10_next_60 rfl ?_
    obtain ⟨a29, x28, e30, h⟩ := iI h
    refine y_getI (pc := 61) flRX10_111 dX10_next_61 rfl a29 e30 ?_
    refine z_icmp_ge (pc := 64) (tgt := 94) dX10_next_64 (by decide) (fun hc => ?_) (fun hc => ?_)
    · replace h := ifp hc h
      exact z_sub [0] rfl (bX10_next_94 (fun h => hk2 h) h)
    · replace h := ifn hc h
      refine z_aload_n (pc := 67) 0 rfl dX10_next_67 rfl ?_
      obtain ⟨a32, x31, e33, h⟩ := iR h
      refine y_getR (pc := 68) flRX10_13 dX10_next_68 rfl a32 e33 ?_
      refine z_aload_n (pc := 71) 0 rfl dX10_next_71 rfl ?_
      obtain ⟨a35, x34, e36, h⟩ := iI h
      refine y_getI (pc := 72) flRX10_108 dX10_next_72 rfl a35 e36 ?_
      obtain ⟨a38, x37, e39, h⟩ := iA h
      refine y_iald (pc := 75) dX10_next_75 a38 e39 ?_
      refine z_bipush (pc := 76) (v := 10) dX10_next_76 (by decide) ?_
      refine z_icmp_eq (pc := 78) (tgt := 94) dX10_next_78 (by decide) (fun hc => ?_) (fun hc => ?_)
      · replace h := ifp hc h
        exact z_sub [0] rfl (bX10_next_94 (fun h => hk2 h) h)
      · replace h := ifn hc h
        refine z_aload_n (pc := 81) 0 rfl dX10_next_81 rfl ?_
        refine z_dup (pc := 82) dX10_next_82 (fun _ => rfl) ?_
        obtain ⟨a41, x40, e42, h⟩ := iI h
        refine y_getI (pc := 83) flRX10_108 dX10_next_83 rfl a41 e42 ?_
        refine z_iconst (pc := 86) (v := 1) dX10_next_86 (by decide) ?_
        refine z_iadd (pc := 87) dX10_next_87 ?_
        obtain ⟨a44, s43, e45, h⟩ := jI h
        refine y_putI (pc := 88) flRX10_108 dX10_next_88 rfl (Or.inl rfl) a44 e45 ?_
        refine z_goto (pc := 91) (tgt := 56) dX10_next_91 (by decide) ?_
        exact z_sub [0] rfl (ih h)
def fX10_next_2  (n : Nat) : Nat → Int32 → zS → Option (Int32 × zS) := match n with
  | 0 => fun _ _ _ => none
  | n + 1 => fun l0 l1 s =>
    if l1 = 0 then
      bnd (qI s 10 l0 5) fun x1 =>
      bnd (wI s 10 l0 6 x1) fun s4 =>
      fX10_next_148  zfu l0 s4
    else
      bnd (qI s 10 l0 5) fun x7 =>
      bnd (qI s 10 l0 4) fun x10 =>
      if x10 ≤ x7 then
        fX10_next_99 ((fX10_next_2  n)) l0 0 s
      else
        bnd (qR s 10 l0 3) fun x13 =>
        bnd (qI s 10 l0 5) fun x16 =>
        bnd (qA s 12 x13 x16) fun x19 =>
        if x19 = 99 then
          bnd (qI s 10 l0 5) fun x22 =>
          if x22 = 0 then
            fX10_next_56 ((fX10_next_2  n)) zfu l0 s
          else
            bnd (qR s 10 l0 3) fun x25 =>
            bnd (qI s 10 l0 5) fun x28 =>
            bnd (qA s 12 x25 (x28 - 1)) fun x31 =>
            if x31 = 10 then
              fX10_next_56 ((fX10_next_2  n)) zfu l0 s
            else
              fX10_next_99 ((fX10_next_2  n)) l0 0 s
        else
          fX10_next_99 ((fX10_next_2  n)) l0 0 s
set_option maxRecDepth 100000 in
set_option maxHeartbeats 4000000 in
theorem bX10_next_2 {E : zE}  : ∀ (n : Nat) {l0 : Nat} {l1 : Int32} {s : zS} {q : Int32 × zS}, fX10_next_2  n l0 l1 s = some q → Z E mX10_next 2 [(0, .ref l0), (1, .int l1)] [] s (0, 0) (zRi E mX10_next q.1 q.2) := by
  intro n
  induction n with
  | zero => intro l0 l1 s q h; cases h
  | succ n ih =>
    intro l0 l1 s q h
    unfold fX10_next_2 at h
    refine z_iload_n (pc := 2) 1 rfl dX10_next_2 rfl ?_
    refine z_if_eq (pc := 3) (tgt := 140) dX10_next_3 (by decide) (fun hc => ?_) (fun hc => ?_)
    · replace h := ifp hc h
      refine z_aload_n (pc := 140) 0 rfl dX10_next_140 rfl ?_
      refine z_aload_n (pc := 141) 0 rfl dX10_next_141 rfl ?_
      obtain ⟨a2, x1, e3, h⟩ := iI h
      refine y_getI (pc := 142) flRX10_108 dX10_next_142 rfl a2 e3 ?_
      obtain ⟨a5, s4, e6, h⟩ := jI h
      refine y_putI (pc := 145) flRX10_118 dX10_next_145 rfl (Or.inl rfl) a5 e6 ?_
      exact z_sub [0] rfl (bX10_next_148  _ h)
    · replace h := ifn hc h
      refine z_iconst (pc := 6) (v := 0) dX10_next_6 (by decide) ?_
      refine z_istore_n (pc := 7) (ls' := [(1, .int 0), (0, .ref l0)]) dX10_next_7 rfl (by decide) (fun _ => rfl) ?_
      refine z_aload_n (pc := 8) 1 rfl dX10_next_8 rfl ?_
      obtain ⟨a8, x7, e9, h⟩ := iI h
      refine y_getI (pc := 9) flRX10_108 dX10_next_9 rfl a8 e9 ?_
      refine z_aload_n (pc := 12) 1 rfl dX10_next_12 rfl ?_
      obtain ⟨a11, x10, e12, h⟩ := iI h
      refine y_getI (pc := 13) flRX10_111 dX10_next_13 rfl a11 e12 ?_
      refine z_icmp_ge (pc := 16) (tgt := 99) dX10_next_16 (by decide) (fun hc => ?_) (fun hc => ?_)
      · replace h := ifp hc h
        exact z_sub [1, 0] rfl (bX10_next_99 (fun h => ih h) h)
      · replace h := ifn hc h
        refine z_aload_n (pc := 19) 1 rfl dX10_next_19 rfl ?_
        obtain ⟨a14, x13, e15, h⟩ := iR h
        refine y_getR (pc := 20) flRX10_13 dX10_next_20 rfl a14 e15 ?_
        refine z_aload_n (pc := 23) 1 rfl dX10_next_23 rfl ?_
        obtain ⟨a17, x16, e18, h⟩ := iI h
        refine y_getI (pc := 24) flRX10_108 dX10_next_24 rfl a17 e18 ?_
        obtain ⟨a20, x19, e21, h⟩ := iA h
        refine y_iald (pc := 27) dX10_next_27 a20 e21 ?_
        refine z_bipush (pc := 28) (v := 99) dX10_next_28 (by decide) ?_
        refine z_icmp_ne (pc := 30) (tgt := 99) dX10_next_30 (by decide) (fun hc => ?_) (fun hc => ?_)
        · replace h := ifn hc h
          exact z_sub [1, 0] rfl (bX10_next_99 (fun h => ih h) h)
        · replace h := ifp hc h
          refine z_aload_n (pc := 33) 1 rfl dX10_next_33 rfl ?_
          obtain ⟨a23, x22, e24, h⟩ := iI h
          refine y_getI (pc := 34) flRX10_108 dX10_next_34 rfl a23 e24 ?_
          refine z_if_eq (pc := 37) (tgt := 56) dX10_next_37 (by decide) (fun hc => ?_) (fun hc => ?_)
          · replace h := ifp hc h
            exact z_sub [1] rfl (bX10_next_56 (fun h => ih h) _ h)
          · replace h := ifn hc h
            refine z_aload_n (pc := 40) 1 rfl dX10_next_40 rfl ?_
            obtain ⟨a26, x25, e27, h⟩ := iR h
            refine y_getR (pc := 41) flRX10_13 dX10_next_41 rfl a26 e27 ?_
            refine z_aload_n (pc := 44) 1 rfl dX10_next_44 rfl ?_
            obtain ⟨a29, x28, e30, h⟩ := iI h
            refine y_getI (pc := 45) flRX10_108 dX10_next_45 rfl a29 e30 ?_
            refine z_iconst (pc := 48) (v := 1) dX10_next_48 (by decide) ?_
            refine z_isub (pc := 49) dX10_next_49 ?_
            obtain ⟨a32, x31, e33, h⟩ := iA h
            refine y_iald (pc := 50) dX10_next_50 a32 e33 ?_
            refine z_bipush (pc := 51) (v := 10) dX10_next_51 (by decide) ?_
            refine z_icmp_ne (pc := 53) (tgt := 99) dX10_next_53 (by decide) (fun hc => ?_) (fun hc => ?_)
            · replace h := ifn hc h
              exact z_sub [1, 0] rfl (bX10_next_99 (fun h => ih h) h)
            · replace h := ifp hc h
              exact z_sub [1] rfl (bX10_next_56 (fun h => ih h) _ h)
def fX10_next (l0 : Nat) (s : zS) : Option (Int32 × zS) :=
  fX10_next_2  zfu l0 1 s
set_option maxRecDepth 100000 in
set_option maxHeartbeats 4000000 in
theorem okX10_next {E : zE} {l0 : Nat} {s : zS} {q : Int32 × zS} (h : fX10_next l0 s = some q) : Ci E mX10_next [.ref l0] s q.1 q.2 := by
  refine Ct.of (ls := [(0, .ref l0)]) (by decide) rfl (Nat.le_of_ble_eq_true rfl) ?_
  show Z E mX10_next 0 [(0, .ref l0)] [] s (0, 0) (zRi E mX10_next q.1 q.2)
  unfold fX10_next at h
  refine z_iconst (pc := 0) (v := 1) dX10_next_0 (by decide) ?_
  refine z_istore_n (pc := 1) (ls' := [(1, .int 1), (0, .ref l0)]) dX10_next_1 rfl (by decide) (fun _ => rfl) ?_
  exact z_sub [1, 0] rfl (bX10_next_2  _ h)
def fX10_need (l0 : Nat) (s : zS) : Option zS :=
  bnd (qI s 10 l0 8) fun x1 =>
  if x1 = 0 then
    bnd (cl s 10 l0 (fX10_next l0  s)) fun q4 =>
    if q4.1 = 0 then
      bnd (qI q4.2 10 l0 4) fun x7 =>
      bnd (cl q4.2 10 l0 (fX10_wrong l0 1 x7 q4.2)) fun q10 =>
      some q10
    else
      some q4.2
  else
    some s
set_option maxRecDepth 100000 in
set_option maxHeartbeats 4000000 in
theorem okX10_need {E : zE} {l0 : Nat} {s : zS} {t : zS} (h : fX10_need l0 s = some t) : Cv E mX10_need [.ref l0] s t := by
  refine Ct.of (ls := [(0, .ref l0)]) (by decide) rfl (Nat.le_of_ble_eq_true rfl) ?_
  show Z E mX10_need 0 [(0, .ref l0)] [] s (0, 0) (zRv E mX10_need t)
  unfold fX10_need at h
  refine z_aload_n (pc := 0) 0 rfl dX10_need_0 rfl ?_
  obtain ⟨a2, x1, e3, h⟩ := iI h
  refine y_getI (pc := 1) flRX10_102 dX10_need_1 rfl a2 e3 ?_
  refine z_if_ne (pc := 4) (tgt := 23) dX10_need_4 (by decide) (fun hc => ?_) (fun hc => ?_)
  · replace h := ifn hc h
    exact y_ret (pc := 23) dX10_need_23 rfl h
  · replace h := ifp hc h
    refine z_aload_n (pc := 7) 0 rfl dX10_need_7 rfl ?_
    obtain ⟨a5, q4, e6, h⟩ := iC h
    refine y_Vi (pc := 8) (M2 := mX10_next) (As := []) (okX10_next e6) mvX10_next mlRX10_124 dX10_need_8 ⟨by decide, by decide⟩ rfl rfl rfl zrest0 a5 ?_
    refine z_if_ne (pc := 11) (tgt := 23) dX10_need_11 (by decide) (fun hc => ?_) (fun hc => ?_)
    · replace h := ifn hc h
      exact y_ret (pc := 23) dX10_need_23 rfl h
    · replace h := ifp hc h
      refine z_aload_n (pc := 14) 0 rfl dX10_need_14 rfl ?_
      refine z_iconst (pc := 15) (v := 1) dX10_need_15 (by decide) ?_
      refine z_aload_n (pc := 16) 0 rfl dX10_need_16 rfl ?_
      obtain ⟨a8, x7, e9, h⟩ := iI h
      refine y_getI (pc := 17) flRX10_111 dX10_need_17 rfl a8 e9 ?_
      obtain ⟨a11, q10, e12, h⟩ := iC h
      refine y_V (pc := 20) (M2 := mX10_wrong) (As := [.int 1, .int x7]) (okX10_wrong e12) mvX10_wrong mlRX10_128 dX10_need_20 ⟨by decide, by decide⟩ rfl rfl rfl zrest0 a11 ?_
      exact y_ret (pc := 23) dX10_need_23 rfl h
def fX10_isWord_46  (l0 : Nat) (l1 : Int32) (l4 : Int32) (s : zS) : Option (Int32 × zS) :=
  if l1 < 3 then
    gd ((1 : Int32) = 0 ∨ 1 = 1) (some (1, s))
  else
    bnd (qR s 10 l0 3) fun x16 =>
    bnd (qI s 10 l0 6) fun x19 =>
    bnd (qA s 12 x16 (x19 + 2)) fun x22 =>
    if x22 = l4 then
      gd ((1 : Int32) = 0 ∨ 1 = 1) (some (1, s))
    else
      gd ((0 : Int32) = 0 ∨ 0 = 1) (some (0, s))
set_option maxRecDepth 100000 in
set_option maxHeartbeats 4000000 in
theorem bX10_isWord_46 {E : zE}   {l0 : Nat} {l1 : Int32} {l4 : Int32} {s : zS} {q : Int32 × zS} (h : fX10_isWord_46  l0 l1 l4 s = some q) : Z E mX10_isWord 46 [(0, .ref l0), (1, .int l1), (4, .int l4)] [] s (0, 0) (zRi E mX10_isWord q.1 q.2) := by
  unfold fX10_isWord_46 at h
  refine z_iload_n (pc := 46) 1 rfl dX10_isWord_46 rfl ?_
  refine z_iconst (pc := 47) (v := 3) dX10_isWord_47 (by decide) ?_
  refine z_icmp_lt (pc := 48) (tgt := 67) dX10_isWord_48 (by decide) (fun hc => ?_) (fun hc => ?_)
  · replace h := ifp hc h
    refine z_iconst (pc := 67) (v := 1) dX10_isWord_67 (by decide) ?_
    refine z_goto (pc := 68) (tgt := 72) dX10_isWord_68 (by decide) ?_
    exact y_zret (pc := 72) dX10_isWord_72 rfl h
  · replace h := ifn hc h
    refine z_aload_n (pc := 51) 0 rfl dX10_isWord_51 rfl ?_
    obtain ⟨a17, x16, e18, h⟩ := iR h
    refine y_getR (pc := 52) flRX10_13 dX10_isWord_52 rfl a17 e18 ?_
    refine z_aload_n (pc := 55) 0 rfl dX10_isWord_55 rfl ?_
    obtain ⟨a20, x19, e21, h⟩ := iI h
    refine y_getI (pc := 56) flRX10_118 dX10_isWord_56 rfl a20 e21 ?_
    refine z_iconst (pc := 59) (v := 2) dX10_isWord_59 (by decide) ?_
    refine z_iadd (pc := 60) dX10_isWord_60 ?_
    obtain ⟨a23, x22, e24, h⟩ := iA h
    refine y_iald (pc := 61) dX10_isWord_61 a23 e24 ?_
    refine z_iload (pc := 62) 2 rfl dX10_isWord_62 ?_
    refine z_icmp_ne (pc := 64) (tgt := 71) dX10_isWord_64 (by decide) (fun hc => ?_) (fun hc => ?_)
    · replace h := ifn hc h
      refine z_iconst (pc := 71) (v := 0) dX10_isWord_71 (by decide) ?_
      exact y_zret (pc := 72) dX10_isWord_72 rfl h
    · replace h := ifp hc h
      refine z_iconst (pc := 67) (v := 1) dX10_isWord_67 (by decide) ?_
      refine z_goto (pc := 68) (tgt := 72) dX10_isWord_68 (by decide) ?_
      exact y_zret (pc := 72) dX10_isWord_72 rfl h
def fX10_isWord (l0 : Nat) (l1 : Int32) (l2 : Int32) (l3 : Int32) (l4 : Int32) (s : zS) : Option (Int32 × zS) :=
  bnd (qI s 10 l0 7) fun x1 =>
  bnd (qI s 10 l0 6) fun x4 =>
  if (x1 - x4) = l1 then
    bnd (qR s 10 l0 3) fun x7 =>
    bnd (qI s 10 l0 6) fun x10 =>
    bnd (qA s 12 x7 x10) fun x13 =>
    if x13 = l2 then
      if l1 < 2 then
        fX10_isWord_46  l0 l1 l4 s
      else
        bnd (qR s 10 l0 3) fun x16 =>
        bnd (qI s 10 l0 6) fun x19 =>
        bnd (qA s 12 x16 (x19 + 1)) fun x22 =>
        if x22 = l3 then
          fX10_isWord_46  l0 l1 l4 s
        else
          gd ((0 : Int32) = 0 ∨ 0 = 1) (some (0, s))
    else
      gd ((0 : Int32) = 0 ∨ 0 = 1) (some (0, s))
  else
    gd ((0 : Int32) = 0 ∨ 0 = 1) (some (0, s))
set_option maxRecDepth 100000 in
set_option maxHeartbeats 4000000 in
theorem okX10_isWord {E : zE} {l0 : Nat} {l1 : Int32} {l2 : Int32} {l3 : Int32} {l4 : Int32} {s : zS} {q : Int32 × zS} (h : fX10_isWord l0 l1 l2 l3 l4 s = some q) : Ci E mX10_isWord [.ref l0, .int l1, .int l2, .int l3, .int l4] s q.1 q.2 := by
  refine Ct.of (ls := [(0, .ref l0), (1, .int l1), (2, .int l2), (3, .int l3), (4, .int l4)]) (by decide) rfl (Nat.le_of_ble_eq_true rfl) ?_
  show Z E mX10_isWord 0 [(0, .ref l0), (1, .int l1), (2, .int l2), (3, .int l3), (4, .int l4)] [] s (0, 0) (zRi E mX10_isWord q.1 q.2)
  unfold fX10_isWord at h
  refine z_aload_n (pc := 0) 0 rfl dX10_isWord_0 rfl ?_
  obtain ⟨a2, x1, e3, h⟩ := iI h
  refine y_getI (pc := 1) flRX10_121 dX10_isWord_1 rfl a2 e3 ?_
  refine z_aload_n (pc := 4) 0 rfl dX10_isWord_4 rfl ?_
  obtain ⟨a5, x4, e6, h⟩ := iI h
  refine y_getI (pc := 5) flRX10_118 dX10_isWord_5 rfl a5 e6 ?_
  refine z_isub (pc := 8) dX10_isWord_8 ?_
  refine z_iload_n (pc := 9) 1 rfl dX10_isWord_9 rfl ?_
  refine z_icmp_ne (pc := 10) (tgt := 71) dX10_isWord_10 (by decide) (fun hc => ?_) (fun hc => ?_)
  · replace h := ifn hc h
    refine z_iconst (pc := 71) (v := 0) dX10_isWord_71 (by decide) ?_
    exact y_zret (pc := 72) dX10_isWord_72 rfl h
  · replace h := ifp hc h
    refine z_aload_n (pc := 13) 0 rfl dX10_isWord_13 rfl ?_
    obtain ⟨a8, x7, e9, h⟩ := iR h
    refine y_getR (pc := 14) flRX10_13 dX10_isWord_14 rfl a8 e9 ?_
    refine z_aload_n (pc := 17) 0 rfl dX10_isWord_17 rfl ?_
    obtain ⟨a11, x10, e12, h⟩ := iI h
    refine y_getI (pc := 18) flRX10_118 dX10_isWord_18 rfl a11 e12 ?_
    obtain ⟨a14, x13, e15, h⟩ := iA h
    refine y_iald (pc := 21) dX10_isWord_21 a14 e15 ?_
    refine z_iload_n (pc := 22) 2 rfl dX10_isWord_22 rfl ?_
    refine z_icmp_ne (pc := 23) (tgt := 71) dX10_isWord_23 (by decide) (fun hc => ?_) (fun hc => ?_)
    · replace h := ifn hc h
      refine z_iconst (pc := 71) (v := 0) dX10_isWord_71 (by decide) ?_
      exact y_zret (pc := 72) dX10_isWord_72 rfl h
    · replace h := ifp hc h
      refine z_iload_n (pc := 26) 1 rfl dX10_isWord_26 rfl ?_
      refine z_iconst (pc := 27) (v := 2) dX10_isWord_27 (by decide) ?_
      refine z_icmp_lt (pc := 28) (tgt := 46) dX10_isWord_28 (by decide) (fun hc => ?_) (fun hc => ?_)
      · replace h := ifp hc h
        exact z_sub [0, 1, 4] rfl (bX10_isWord_46  h)
      · replace h := ifn hc h
        refine z_aload_n (pc := 31) 0 rfl dX10_isWord_31 rfl ?_
        obtain ⟨a17, x16, e18, h⟩ := iR h
        refine y_getR (pc := 32) flRX10_13 dX10_isWord_32 rfl a17 e18 ?_
        refine z_aload_n (pc := 35) 0 rfl dX10_isWord_35 rfl ?_
        obtain ⟨a20, x19, e21, h⟩ := iI h
        refine y_getI (pc := 36) flRX10_118 dX10_isWord_36 rfl a20 e21 ?_
        refine z_iconst (pc := 39) (v := 1) dX10_isWord_39 (by decide) ?_
        refine z_iadd (pc := 40) dX10_isWord_40 ?_
        obtain ⟨a23, x22, e24, h⟩ := iA h
        refine y_iald (pc := 41) dX10_isWord_41 a23 e24 ?_
        refine z_iload_n (pc := 42) 3 rfl dX10_isWord_42 rfl ?_
        refine z_icmp_ne (pc := 43) (tgt := 71) dX10_isWord_43 (by decide) (fun hc => ?_) (fun hc => ?_)
        · replace h := ifn hc h
          refine z_iconst (pc := 71) (v := 0) dX10_isWord_71 (by decide) ?_
          exact y_zret (pc := 72) dX10_isWord_72 rfl h
        · replace h := ifp hc h
          exact z_sub [0, 1, 4] rfl (bX10_isWord_46  h)
def fX10_number_158  (l1 : Int32) (l4 : Int32) (s : zS) : Option (Int32 × zS) :=
  if l1 = 0 then
    some (l4, s)
  else
    some ((-l4), s)
set_option maxRecDepth 100000 in
set_option maxHeartbeats 4000000 in
theorem bX10_number_158 {E : zE}   {l1 : Int32} {l4 : Int32} {s : zS} {q : Int32 × zS} (h : fX10_number_158  l1 l4 s = some q) : Z E mX10_number 158 [(1, .int l1), (4, .int l4)] [] s (0, 0) (zRi E mX10_number q.1 q.2) := by
  unfold fX10_number_158 at h
  refine z_iload_n (pc := 158) 0 rfl dX10_number_158 rfl ?_
  refine z_if_eq (pc := 159) (tgt := 168) dX10_number_159 (by decide) (fun hc => ?_) (fun hc => ?_)
  · replace h := ifp hc h
    refine z_iload (pc := 168) 1 rfl dX10_number_168 ?_
    exact y_iret (pc := 170) dX10_number_170 rfl h
  · replace h := ifn hc h
    refine z_iload (pc := 162) 1 rfl dX10_number_162 ?_
    refine z_ineg (pc := 164) dX10_number_164 ?_
    refine z_goto (pc := 165) (tgt := 170) dX10_number_165 (by decide) ?_
    exact y_iret (pc := 170) dX10_number_170 rfl h
def fX10_number_145  (l0 : Nat) (l1 : Int32) (l3 : Int32) (l4 : Int32) (s : zS) : Option (Int32 × zS) :=
  if l3 = 0 then
    bnd (qI s 10 l0 6) fun x22 =>
    bnd (cl s 10 l0 (fX10_wrong l0 1 x22 s)) fun q25 =>
    fX10_number_158  l1 l4 q25
  else
    fX10_number_158  l1 l4 s
set_option maxRecDepth 100000 in
set_option maxHeartbeats 4000000 in
theorem bX10_number_145 {E : zE}   {l0 : Nat} {l1 : Int32} {l3 : Int32} {l4 : Int32} {s : zS} {q : Int32 × zS} (h : fX10_number_145  l0 l1 l3 l4 s = some q) : Z E mX10_number 145 [(0, .ref l0), (1, .int l1), (3, .int l3), (4, .int l4)] [] s (0, 0) (zRi E mX10_number q.1 q.2) := by
  unfold fX10_number_145 at h
  refine z_iload_n (pc := 145) 2 rfl dX10_number_145 rfl ?_
  refine z_if_ne (pc := 146) (tgt := 158) dX10_number_146 (by decide) (fun hc => ?_) (fun hc => ?_)
  · replace h := ifn hc h
    exact z_sub [1, 3] rfl (bX10_number_158  h)
  · replace h := ifp hc h
    refine z_aload_n (pc := 149) 0 rfl dX10_number_149 rfl ?_
    refine z_iconst (pc := 150) (v := 1) dX10_number_150 (by decide) ?_
    refine z_aload_n (pc := 151) 0 rfl dX10_number_151 rfl ?_
    obtain ⟨a23, x22, e24, h⟩ := iI h
    refine y_getI (pc := 152) flRX10_118 dX10_number_152 rfl a23 e24 ?_
    obtain ⟨a26, q25, e27, h⟩ := iC h
    refine y_V (pc := 155) (M2 := mX10_wrong) (As := [.int 1, .int x22]) (okX10_wrong e27) mvX10_wrong mlRX10_128 dX10_number_155 ⟨by decide, by decide⟩ rfl rfl rfl zrest0 a26 ?_
    exact z_sub [1, 3] rfl (bX10_number_158  h)
def fX10_number_120 (k78 : Nat → Int32 → Int32 → Int32 → Int32 → zS → Option (Int32 × zS)) (l0 : Nat) (l1 : Int32) (l4 : Int32) (l5 : Int32) (t0 : Int32) (s : zS) : Option (Int32 × zS) :=
  bnd (qR s 10 l0 3) fun x28 =>
  bnd (qA s 12 x28 l5) fun x31 =>
  k78 l0 l1 t0 (((10 * l4) + x31) - 48) (l5 + 1) s
set_option maxRecDepth 100000 in
set_option maxHeartbeats 4000000 in
theorem bX10_number_120 {E : zE} {k78 : Nat → Int32 → Int32 → Int32 → Int32 → zS → Option (Int32 × zS)} (hk78 : ∀ {l0 : Nat} {l1 : Int32} {l3 : Int32} {l4 : Int32} {l5 : Int32} {s : zS} {q : Int32 × zS}, k78 l0 l1 l3 l4 l5 s = some q → Z E mX10_number 78 [(0, .ref l0), (1, .int l1), (3, .int l3), (4, .int l4), (5, .int l5)] [] s (0, 0) (zRi E mX10_number q.1 q.2)) {l0 : Nat} {l1 : Int32} {l4 : Int32} {l5 : Int32} {t0 : Int32} {s : zS} {q : Int32 × zS} (h : fX10_number_120 k78 l0 l1 l4 l5 t0 s = some q) : Z E mX10_number 120 [(0, .ref l0), (1, .int l1), (4, .int l4), (5, .int l5)] [.int t0] s (0, 0) (zRi E mX10_number q.1 q.2) := by
  unfold fX10_number_120 at h
  refine z_istore_n (pc := 120) (ls' := [(3, .int t0), (0, .ref l0), (1, .int l1), (4, .int l4), (5, .int l5)]) dX10_number_120 rfl (by decide) (fun _ => rfl) ?_
  refine z_bipush (pc := 121) (v := 10) dX10_number_121 (by decide) ?_
  refine z_iload (pc := 123) 3 rfl dX10_number_123 ?_
  refine z_imul (pc := 125) dX10_number_125 ?_
  refine z_aload_n (pc := 126) 1 rfl dX10_number_126 rfl ?_
  obtain ⟨a29, x28, e30, h⟩ := iR h
  refine y_getR (pc := 127) flRX10_13 dX10_number_127 rfl a29 e30 ?_
  refine z_iload (pc := 130) 4 rfl dX10_number_130 ?_
  obtain ⟨a32, x31, e33, h⟩ := iA h
  refine y_iald (pc := 132) dX10_number_132 a32 e33 ?_
  refine z_iadd (pc := 133) dX10_number_133 ?_
  refine z_bipush (pc := 134) (v := 48) dX10_number_134 (by decide) ?_
  refine z_isub (pc := 136) dX10_number_136 ?_
  refine z_istore (pc := 137) (ls' := [(4, .int (((10 * l4) + x31) - 48)), (3, .int t0), (0, .ref l0), (1, .int l1), (5, .int l5)]) dX10_number_137 (by decide) (fun _ => rfl) ?_
  refine z_iinc (pc := 139) (v := (l5 + 1)) (ls' := [(5, .int (l5 + 1)), (4, .int (((10 * l4) + x31) - 48)), (3, .int t0), (0, .ref l0), (1, .int l1)]) 4 rfl rfl dX10_number_139 (by decide) (fun _ => rfl) ?_
  refine z_goto (pc := 142) (tgt := 78) dX10_number_142 (by decide) ?_
  exact z_sub [3, 4, 2, 1, 0] rfl (hk78 h)
def fX10_number_119 (k78 : Nat → Int32 → Int32 → Int32 → Int32 → zS → Option (Int32 × zS)) (l0 : Nat) (l1 : Int32) (l4 : Int32) (l5 : Int32) (s : zS) : Option (Int32 × zS) :=
  fX10_number_120 (k78) l0 l1 l4 l5 0 s
set_option maxRecDepth 100000 in
set_option maxHeartbeats 4000000 in
theorem bX10_number_119 {E : zE} {k78 : Nat → Int32 → Int32 → Int32 → Int32 → zS → Option (Int32 × zS)} (hk78 : ∀ {l0 : Nat} {l1 : Int32} {l3 : Int32} {l4 : Int32} {l5 : Int32} {s : zS} {q : Int32 × zS}, k78 l0 l1 l3 l4 l5 s = some q → Z E mX10_number 78 [(0, .ref l0), (1, .int l1), (3, .int l3), (4, .int l4), (5, .int l5)] [] s (0, 0) (zRi E mX10_number q.1 q.2)) {l0 : Nat} {l1 : Int32} {l4 : Int32} {l5 : Int32} {s : zS} {q : Int32 × zS} (h : fX10_number_119 k78 l0 l1 l4 l5 s = some q) : Z E mX10_number 119 [(0, .ref l0), (1, .int l1), (4, .int l4), (5, .int l5)] [] s (0, 0) (zRi E mX10_number q.1 q.2) := by
  unfold fX10_number_119 at h
  refine z_iconst (pc := 119) (v := 0) dX10_number_119 (by decide) ?_
  exact z_sub [0, 1, 2, 3] rfl (bX10_number_120 (fun h => hk78 h) h)
def fX10_number_78  (n : Nat) : Nat → Int32 → Int32 → Int32 → Int32 → zS → Option (Int32 × zS) := match n with
  | 0 => fun _ _ _ _ _ _ => none
  | n + 1 => fun l0 l1 l3 l4 l5 s =>
    bnd (qI s 10 l0 7) fun x19 =>
    if x19 ≤ l5 then
      fX10_number_145  l0 l1 l3 l4 s
    else
      if l3 = 0 then
        fX10_number_145  l0 l1 l3 l4 s
      else
        bnd (qR s 10 l0 3) fun x22 =>
        bnd (qA s 12 x22 l5) fun x25 =>
        if x25 < 48 then
          fX10_number_119 ((fX10_number_78  n)) l0 l1 l4 l5 s
        else
          bnd (qR s 10 l0 3) fun x28 =>
          bnd (qA s 12 x28 l5) fun x31 =>
          if 57 < x31 then
            fX10_number_119 ((fX10_number_78  n)) l0 l1 l4 l5 s
          else
            fX10_number_120 ((fX10_number_78  n)) l0 l1 l4 l5 1 s
set_option maxRecDepth 100000 in
set_option maxHeartbeats 4000000 in
theorem bX10_number_78 {E : zE}  : ∀ (n : Nat) {l0 : Nat} {l1 : Int32} {l3 : Int32} {l4 : Int32} {l5 : Int32} {s : zS} {q : Int32 × zS}, fX10_number_78  n l0 l1 l3 l4 l5 s = some q → Z E mX10_number 78 [(0, .ref l0), (1, .int l1), (3, .int l3), (4, .int l4), (5, .int l5)] [] s (0, 0) (zRi E mX10_number q.1 q.2) := by
  intro n
  induction n with
  | zero => intro l0 l1 l3 l4 l5 s q h; cases h
  | succ n ih =>
    intro l0 l1 l3 l4 l5 s q h
    unfold fX10_number_78 at h
    refine z_iload (pc := 78) 4 rfl dX10_number_78 ?_
    refine z_aload_n (pc := 80) 0 rfl dX10_number_80 rfl ?_
    obtain ⟨a20, x19, e21, h⟩ := iI h
    refine y_getI (pc := 81) flRX10_121 dX10_number_81 rfl a20 e21 ?_
    refine z_icmp_ge (pc := 84) (tgt := 145) dX10_number_84 (by decide) (fun hc => ?_) (fun hc => ?_)
    · replace h := ifp hc h
      exact z_sub [0, 1, 2, 3] rfl (bX10_number_145  h)
    · replace h := ifn hc h
      refine z_iload_n (pc := 87) 2 rfl dX10_number_87 rfl ?_
      refine z_if_eq (pc := 88) (tgt := 145) dX10_number_88 (by decide) (fun hc => ?_) (fun hc => ?_)
      · replace h := ifp hc h
        exact z_sub [0, 1, 2, 3] rfl (bX10_number_145  h)
      · replace h := ifn hc h
        refine z_aload_n (pc := 91) 0 rfl dX10_number_91 rfl ?_
        obtain ⟨a23, x22, e24, h⟩ := iR h
        refine y_getR (pc := 92) flRX10_13 dX10_number_92 rfl a23 e24 ?_
        refine z_iload (pc := 95) 4 rfl dX10_number_95 ?_
        obtain ⟨a26, x25, e27, h⟩ := iA h
        refine y_iald (pc := 97) dX10_number_97 a26 e27 ?_
        refine z_bipush (pc := 98) (v := 48) dX10_number_98 (by decide) ?_
        refine z_icmp_lt (pc := 100) (tgt := 119) dX10_number_100 (by decide) (fun hc => ?_) (fun hc => ?_)
        · replace h := ifp hc h
          exact z_sub [0, 1, 3, 4] rfl (bX10_number_119 (fun h => ih h) h)
        · replace h := ifn hc h
          refine z_aload_n (pc := 103) 0 rfl dX10_number_103 rfl ?_
          obtain ⟨a29, x28, e30, h⟩ := iR h
          refine y_getR (pc := 104) flRX10_13 dX10_number_104 rfl a29 e30 ?_
          refine z_iload (pc := 107) 4 rfl dX10_number_107 ?_
          obtain ⟨a32, x31, e33, h⟩ := iA h
          refine y_iald (pc := 109) dX10_number_109 a32 e33 ?_
          refine z_bipush (pc := 110) (v := 57) dX10_number_110 (by decide) ?_
          refine z_icmp_gt (pc := 112) (tgt := 119) dX10_number_112 (by decide) (fun hc => ?_) (fun hc => ?_)
          · replace h := ifp hc h
            exact z_sub [0, 1, 3, 4] rfl (bX10_number_119 (fun h => ih h) h)
          · replace h := ifn hc h
            refine z_iconst (pc := 115) (v := 1) dX10_number_115 (by decide) ?_
            refine z_goto (pc := 116) (tgt := 120) dX10_number_116 (by decide) ?_
            exact z_sub [0, 1, 3, 4] rfl (bX10_number_120 (fun h => ih h) h)
def fX10_number_71  (l0 : Nat) (l1 : Int32) (l2 : Int32) (t0 : Int32) (s : zS) : Option (Int32 × zS) :=
  fX10_number_78  zfu l0 l1 t0 0 l2 s
set_option maxRecDepth 100000 in
set_option maxHeartbeats 4000000 in
theorem bX10_number_71 {E : zE}   {l0 : Nat} {l1 : Int32} {l2 : Int32} {t0 : Int32} {s : zS} {q : Int32 × zS} (h : fX10_number_71  l0 l1 l2 t0 s = some q) : Z E mX10_number 71 [(0, .ref l0), (1, .int l1), (2, .int l2)] [.int t0] s (0, 0) (zRi E mX10_number q.1 q.2) := by
  unfold fX10_number_71 at h
  refine z_istore_n (pc := 71) (ls' := [(3, .int t0), (0, .ref l0), (1, .int l1), (2, .int l2)]) dX10_number_71 rfl (by decide) (fun _ => rfl) ?_
  refine z_iconst (pc := 72) (v := 0) dX10_number_72 (by decide) ?_
  refine z_istore (pc := 73) (ls' := [(4, .int 0), (3, .int t0), (0, .ref l0), (1, .int l1), (2, .int l2)]) dX10_number_73 (by decide) (fun _ => rfl) ?_
  refine z_iload_n (pc := 75) 4 rfl dX10_number_75 rfl ?_
  refine z_istore (pc := 76) (ls' := [(5, .int l2), (4, .int 0), (3, .int t0), (0, .ref l0), (1, .int l1), (2, .int l2)]) dX10_number_76 (by decide) (fun _ => rfl) ?_
  exact z_sub [3, 4, 2, 1, 0] rfl (bX10_number_78  _ h)
def fX10_number_70  (l0 : Nat) (l1 : Int32) (l2 : Int32) (s : zS) : Option (Int32 × zS) :=
  fX10_number_71  l0 l1 l2 0 s
set_option maxRecDepth 100000 in
set_option maxHeartbeats 4000000 in
theorem bX10_number_70 {E : zE}   {l0 : Nat} {l1 : Int32} {l2 : Int32} {s : zS} {q : Int32 × zS} (h : fX10_number_70  l0 l1 l2 s = some q) : Z E mX10_number 70 [(0, .ref l0), (1, .int l1), (2, .int l2)] [] s (0, 0) (zRi E mX10_number q.1 q.2) := by
  unfold fX10_number_70 at h
  refine z_iconst (pc := 70) (v := 0) dX10_number_70 (by decide) ?_
  exact z_sub [0, 1, 2] rfl (bX10_number_71  h)
def fX10_number_46  (l0 : Nat) (l1 : Int32) (t0 : Int32) (s : zS) : Option (Int32 × zS) :=
  bnd (qI s 10 l0 7) fun x16 =>
  if x16 ≤ t0 then
    fX10_number_70  l0 l1 t0 s
  else
    bnd (qI s 10 l0 7) fun x19 =>
    if 6 < (x19 - t0) then
      fX10_number_70  l0 l1 t0 s
    else
      fX10_number_71  l0 l1 t0 1 s
set_option maxRecDepth 100000 in
set_option maxHeartbeats 4000000 in
theorem bX10_number_46 {E : zE}   {l0 : Nat} {l1 : Int32} {t0 : Int32} {s : zS} {q : Int32 × zS} (h : fX10_number_46  l0 l1 t0 s = some q) : Z E mX10_number 46 [(0, .ref l0), (1, .int l1)] [.int t0] s (0, 0) (zRi E mX10_number q.1 q.2) := by
  unfold fX10_number_46 at h
  refine z_istore_n (pc := 46) (ls' := [(2, .int t0), (0, .ref l0), (1, .int l1)]) dX10_number_46 rfl (by decide) (fun _ => rfl) ?_
  refine z_aload_n (pc := 47) 1 rfl dX10_number_47 rfl ?_
  obtain ⟨a17, x16, e18, h⟩ := iI h
  refine y_getI (pc := 48) flRX10_121 dX10_number_48 rfl a17 e18 ?_
  refine z_iload_n (pc := 51) 0 rfl dX10_number_51 rfl ?_
  refine z_icmp_le (pc := 52) (tgt := 70) dX10_number_52 (by decide) (fun hc => ?_) (fun hc => ?_)
  · replace h := ifp hc h
    exact z_sub [1, 2, 0] rfl (bX10_number_70  h)
  · replace h := ifn hc h
    refine z_aload_n (pc := 55) 1 rfl dX10_number_55 rfl ?_
    obtain ⟨a20, x19, e21, h⟩ := iI h
    refine y_getI (pc := 56) flRX10_121 dX10_number_56 rfl a20 e21 ?_
    refine z_iload_n (pc := 59) 0 rfl dX10_number_59 rfl ?_
    refine z_isub (pc := 60) dX10_number_60 ?_
    refine z_bipush (pc := 61) (v := 6) dX10_number_61 (by decide) ?_
    refine z_icmp_gt (pc := 63) (tgt := 70) dX10_number_63 (by decide) (fun hc => ?_) (fun hc => ?_)
    · replace h := ifp hc h
      exact z_sub [1, 2, 0] rfl (bX10_number_70  h)
    · replace h := ifn hc h
      refine z_iconst (pc := 66) (v := 1) dX10_number_66 (by decide) ?_
      refine z_goto (pc := 67) (tgt := 71) dX10_number_67 (by decide) ?_
      exact z_sub [1, 2, 0] rfl (bX10_number_71  h)
def fX10_number_28  (l0 : Nat) (t0 : Int32) (s : zS) : Option (Int32 × zS) :=
  if t0 = 0 then
    bnd (qI s 10 l0 6) fun x13 =>
    fX10_number_46  l0 t0 x13 s
  else
    bnd (qI s 10 l0 6) fun x16 =>
    fX10_number_46  l0 t0 (x16 + 1) s
set_option maxRecDepth 100000 in
set_option maxHeartbeats 4000000 in
theorem bX10_number_28 {E : zE}   {l0 : Nat} {t0 : Int32} {s : zS} {q : Int32 × zS} (h : fX10_number_28  l0 t0 s = some q) : Z E mX10_number 28 [(0, .ref l0)] [.int t0] s (0, 0) (zRi E mX10_number q.1 q.2) := by
  unfold fX10_number_28 at h
  refine z_istore_n (pc := 28) (ls' := [(1, .int t0), (0, .ref l0)]) dX10_number_28 rfl (by decide) (fun _ => rfl) ?_
  refine z_iload_n (pc := 29) 0 rfl dX10_number_29 rfl ?_
  refine z_if_eq (pc := 30) (tgt := 42) dX10_number_30 (by decide) (fun hc => ?_) (fun hc => ?_)
  · replace h := ifp hc h
    refine z_aload_n (pc := 42) 1 rfl dX10_number_42 rfl ?_
    obtain ⟨a14, x13, e15, h⟩ := iI h
    refine y_getI (pc := 43) flRX10_118 dX10_number_43 rfl a14 e15 ?_
    exact z_sub [1, 0] rfl (bX10_number_46  h)
  · replace h := ifn hc h
    refine z_aload_n (pc := 33) 1 rfl dX10_number_33 rfl ?_
    obtain ⟨a17, x16, e18, h⟩ := iI h
    refine y_getI (pc := 34) flRX10_118 dX10_number_34 rfl a17 e18 ?_
    refine z_iconst (pc := 37) (v := 1) dX10_number_37 (by decide) ?_
    refine z_iadd (pc := 38) dX10_number_38 ?_
    refine z_goto (pc := 39) (tgt := 46) dX10_number_39 (by decide) ?_
    exact z_sub [1, 0] rfl (bX10_number_46  h)
def fX10_number (l0 : Nat) (s : zS) : Option (Int32 × zS) :=
  bnd (qI s 10 l0 8) fun x1 =>
  if x1 = 0 then
    bnd (qR s 10 l0 3) fun x4 =>
    bnd (qI s 10 l0 6) fun x7 =>
    bnd (qA s 12 x4 x7) fun x10 =>
    if x10 = 45 then
      fX10_number_28  l0 1 s
    else
      fX10_number_28  l0 0 s
  else
    some (0, s)
set_option maxRecDepth 100000 in
set_option maxHeartbeats 4000000 in
theorem okX10_number {E : zE} {l0 : Nat} {s : zS} {q : Int32 × zS} (h : fX10_number l0 s = some q) : Ci E mX10_number [.ref l0] s q.1 q.2 := by
  refine Ct.of (ls := [(0, .ref l0)]) (by decide) rfl (Nat.le_of_ble_eq_true rfl) ?_
  show Z E mX10_number 0 [(0, .ref l0)] [] s (0, 0) (zRi E mX10_number q.1 q.2)
  unfold fX10_number at h
  refine z_aload_n (pc := 0) 0 rfl dX10_number_0 rfl ?_
  obtain ⟨a2, x1, e3, h⟩ := iI h
  refine y_getI (pc := 1) flRX10_102 dX10_number_1 rfl a2 e3 ?_
  refine z_if_eq (pc := 4) (tgt := 9) dX10_number_4 (by decide) (fun hc => ?_) (fun hc => ?_)
  · replace h := ifp hc h
    refine z_aload_n (pc := 9) 0 rfl dX10_number_9 rfl ?_
    obtain ⟨a5, x4, e6, h⟩ := iR h
    refine y_getR (pc := 10) flRX10_13 dX10_number_10 rfl a5 e6 ?_
    refine z_aload_n (pc := 13) 0 rfl dX10_number_13 rfl ?_
    obtain ⟨a8, x7, e9, h⟩ := iI h
    refine y_getI (pc := 14) flRX10_118 dX10_number_14 rfl a8 e9 ?_
    obtain ⟨a11, x10, e12, h⟩ := iA h
    refine y_iald (pc := 17) dX10_number_17 a11 e12 ?_
    refine z_bipush (pc := 18) (v := 45) dX10_number_18 (by decide) ?_
    refine z_icmp_ne (pc := 20) (tgt := 27) dX10_number_20 (by decide) (fun hc => ?_) (fun hc => ?_)
    · replace h := ifn hc h
      refine z_iconst (pc := 27) (v := 0) dX10_number_27 (by decide) ?_
      exact z_sub [0] rfl (bX10_number_28  h)
    · replace h := ifp hc h
      refine z_iconst (pc := 23) (v := 1) dX10_number_23 (by decide) ?_
      refine z_goto (pc := 24) (tgt := 28) dX10_number_24 (by decide) ?_
      exact z_sub [0] rfl (bX10_number_28  h)
  · replace h := ifn hc h
    refine z_iconst (pc := 7) (v := 0) dX10_number_7 (by decide) ?_
    exact y_iret (pc := 8) dX10_number_8 rfl h
def fX10_within_18  (l0 : Nat) (l2 : Int32) (s : zS) : Option (Int32 × zS) :=
  bnd (qI s 10 l0 6) fun x7 =>
  bnd (cl s 10 l0 (fX10_wrong l0 2 x7 s)) fun q10 =>
  some (l2, q10)
set_option maxRecDepth 100000 in
set_option maxHeartbeats 4000000 in
theorem bX10_within_18 {E : zE}   {l0 : Nat} {l2 : Int32} {s : zS} {q : Int32 × zS} (h : fX10_within_18  l0 l2 s = some q) : Z E mX10_within 18 [(0, .ref l0), (2, .int l2)] [] s (0, 0) (zRi E mX10_within q.1 q.2) := by
  unfold fX10_within_18 at h
  refine z_aload_n (pc := 18) 0 rfl dX10_within_18 rfl ?_
  refine z_iconst (pc := 19) (v := 2) dX10_within_19 (by decide) ?_
  refine z_aload_n (pc := 20) 0 rfl dX10_within_20 rfl ?_
  obtain ⟨a8, x7, e9, h⟩ := iI h
  refine y_getI (pc := 21) flRX10_118 dX10_within_21 rfl a8 e9 ?_
  obtain ⟨a11, q10, e12, h⟩ := iC h
  refine y_V (pc := 24) (M2 := mX10_wrong) (As := [.int 2, .int x7]) (okX10_wrong e12) mvX10_wrong mlRX10_128 dX10_within_24 ⟨by decide, by decide⟩ rfl rfl rfl zrest0 a11 ?_
  refine z_iload_n (pc := 27) 1 rfl dX10_within_27 rfl ?_
  exact y_iret (pc := 28) dX10_within_28 rfl h
def fX10_within (l0 : Nat) (l1 : Int32) (s : zS) : Option (Int32 × zS) :=
  bnd (cl s 10 l0 (fX10_need l0  s)) fun q1 =>
  bnd (cl q1 10 l0 (fX10_number l0  q1)) fun q4 =>
  if q4.1 < 0 then
    fX10_within_18  l0 q4.1 q4.2
  else
    if q4.1 ≤ l1 then
      some (q4.1, q4.2)
    else
      fX10_within_18  l0 q4.1 q4.2
set_option maxRecDepth 100000 in
set_option maxHeartbeats 4000000 in
theorem okX10_within {E : zE} {l0 : Nat} {l1 : Int32} {s : zS} {q : Int32 × zS} (h : fX10_within l0 l1 s = some q) : Ci E mX10_within [.ref l0, .int l1] s q.1 q.2 := by
  refine Ct.of (ls := [(0, .ref l0), (1, .int l1)]) (by decide) rfl (Nat.le_of_ble_eq_true rfl) ?_
  show Z E mX10_within 0 [(0, .ref l0), (1, .int l1)] [] s (0, 0) (zRi E mX10_within q.1 q.2)
  unfold fX10_within at h
  refine z_aload_n (pc := 0) 0 rfl dX10_within_0 rfl ?_
  obtain ⟨a2, q1, e3, h⟩ := iC h
  refine y_V (pc := 1) (M2 := mX10_need) (As := []) (okX10_need e3) mvX10_need mlRX10_132 dX10_within_1 ⟨by decide, by decide⟩ rfl rfl rfl zrest0 a2 ?_
  refine z_aload_n (pc := 4) 0 rfl dX10_within_4 rfl ?_
  obtain ⟨a5, q4, e6, h⟩ := iC h
  refine y_Vi (pc := 5) (M2 := mX10_number) (As := []) (okX10_number e6) mvX10_number mlRX10_135 dX10_within_5 ⟨by decide, by decide⟩ rfl rfl rfl zrest0 a5 ?_
  refine z_istore_n (pc := 8) (ls' := [(2, .int q4.1), (0, .ref l0), (1, .int l1)]) dX10_within_8 rfl (by decide) (fun _ => rfl) ?_
  refine z_iload_n (pc := 9) 0 rfl dX10_within_9 rfl ?_
  refine z_if_lt (pc := 10) (tgt := 18) dX10_within_10 (by decide) (fun hc => ?_) (fun hc => ?_)
  · replace h := ifp hc h
    exact z_sub [1, 0] rfl (bX10_within_18  h)
  · replace h := ifn hc h
    refine z_iload_n (pc := 13) 0 rfl dX10_within_13 rfl ?_
    refine z_iload_n (pc := 14) 2 rfl dX10_within_14 rfl ?_
    refine z_icmp_le (pc := 15) (tgt := 27) dX10_within_15 (by decide) (fun hc => ?_) (fun hc => ?_)
    · replace h := ifp hc h
      refine z_iload_n (pc := 27) 0 rfl dX10_within_27 rfl ?_
      exact y_iret (pc := 28) dX10_within_28 rfl h
    · replace h := ifn hc h
      exact z_sub [1, 0] rfl (bX10_within_18  h)
def fX10_beginRead (l0 : Nat) (l1 : Int32) (s : zS) : Option zS :=
  bnd (wI s 10 l0 26 0) fun s1 =>
  bnd (wI s1 10 l0 27 0) fun s4 =>
  bnd (wI s4 10 l0 28 0) fun s7 =>
  bnd (wI s7 10 l0 30 l1) fun s10 =>
  bnd (wI s10 10 l0 8 0) fun s13 =>
  bnd (wI s13 10 l0 5 0) fun s16 =>
  some s16
set_option maxRecDepth 100000 in
set_option maxHeartbeats 4000000 in
theorem okX10_beginRead {E : zE} {l0 : Nat} {l1 : Int32} {s : zS} {t : zS} (h : fX10_beginRead l0 l1 s = some t) : Cv E mX10_beginRead [.ref l0, .int l1] s t := by
  refine Ct.of (ls := [(0, .ref l0), (1, .int l1)]) (by decide) rfl (Nat.le_of_ble_eq_true rfl) ?_
  show Z E mX10_beginRead 0 [(0, .ref l0), (1, .int l1)] [] s (0, 0) (zRv E mX10_beginRead t)
  unfold fX10_beginRead at h
  refine z_aload_n (pc := 0) 0 rfl dX10_beginRead_0 rfl ?_
  refine z_iconst (pc := 1) (v := 0) dX10_beginRead_1 (by decide) ?_
  obtain ⟨a2, s1, e3, h⟩ := jI h
  refine y_putI (pc := 2) flRX10_139 dX10_beginRead_2 rfl (Or.inl rfl) a2 e3 ?_
  refine z_aload_n (pc := 5) 0 rfl dX10_beginRead_5 rfl ?_
  refine z_iconst (pc := 6) (v := 0) dX10_beginRead_6 (by decide) ?_
  obtain ⟨a5, s4, e6, h⟩ := jI h
  refine y_putI (pc := 7) flRX10_142 dX10_beginRead_7 rfl (Or.inl rfl) a5 e6 ?_
  refine z_aload_n (pc := 10) 0 rfl dX10_beginRead_10 rfl ?_
  refine z_iconst (pc := 11) (v := 0) dX10_beginRead_11 (by decide) ?_
  obtain ⟨a8, s7, e9, h⟩ := jI h
  refine y_putI (pc := 12) flRX10_145 dX10_beginRead_12 rfl (Or.inl rfl) a8 e9 ?_
  refine z_aload_n (pc := 15) 0 rfl dX10_beginRead_15 rfl ?_
  refine z_iload_n (pc := 16) 1 rfl dX10_beginRead_16 rfl ?_
  obtain ⟨a11, s10, e12, h⟩ := jI h
  refine y_putI (pc := 17) flRX10_148 dX10_beginRead_17 rfl (Or.inl rfl) a11 e12 ?_
  refine z_aload_n (pc := 20) 0 rfl dX10_beginRead_20 rfl ?_
  refine z_iconst (pc := 21) (v := 0) dX10_beginRead_21 (by decide) ?_
  obtain ⟨a14, s13, e15, h⟩ := jI h
  refine y_putI (pc := 22) flRX10_102 dX10_beginRead_22 rfl (Or.inl rfl) a14 e15 ?_
  refine z_aload_n (pc := 25) 0 rfl dX10_beginRead_25 rfl ?_
  refine z_iconst (pc := 26) (v := 0) dX10_beginRead_26 (by decide) ?_
  obtain ⟨a17, s16, e18, h⟩ := jI h
  refine y_putI (pc := 27) flRX10_108 dX10_beginRead_27 rfl (Or.inl rfl) a17 e18 ?_
  exact y_ret (pc := 30) dX10_beginRead_30 rfl h
def fX10_beginRow (l0 : Nat) (s : zS) : Option zS :=
  bnd (qI s 10 l0 26) fun x1 =>
  bnd (wI s 10 l0 26 (x1 + 1)) fun s4 =>
  bnd (qR s4 10 l0 22) fun x7 =>
  bnd (qI s4 10 l0 26) fun x10 =>
  bnd (qI s4 10 l0 27) fun x13 =>
  bnd (uI s4 x7 x10 x13) fun s16 =>
  bnd (qR s16 10 l0 23) fun x19 =>
  bnd (qI s16 10 l0 26) fun x22 =>
  bnd (uI s16 x19 x22 0) fun s25 =>
  bnd (qR s25 10 l0 25) fun x28 =>
  bnd (qI s25 10 l0 26) fun x31 =>
  bnd (uZ s25 x28 x31 0) fun s34 =>
  bnd (wI s34 10 l0 29 0) fun s37 =>
  some s37
set_option maxRecDepth 100000 in
set_option maxHeartbeats 4000000 in
theorem okX10_beginRow {E : zE} {l0 : Nat} {s : zS} {t : zS} (h : fX10_beginRow l0 s = some t) : Cv E mX10_beginRow [.ref l0] s t := by
  refine Ct.of (ls := [(0, .ref l0)]) (by decide) rfl (Nat.le_of_ble_eq_true rfl) ?_
  show Z E mX10_beginRow 0 [(0, .ref l0)] [] s (0, 0) (zRv E mX10_beginRow t)
  unfold fX10_beginRow at h
  refine z_aload_n (pc := 0) 0 rfl dX10_beginRow_0 rfl ?_
  refine z_dup (pc := 1) dX10_beginRow_1 (fun _ => rfl) ?_
  obtain ⟨a2, x1, e3, h⟩ := iI h
  refine y_getI (pc := 2) flRX10_139 dX10_beginRow_2 rfl a2 e3 ?_
  refine z_iconst (pc := 5) (v := 1) dX10_beginRow_5 (by decide) ?_
  refine z_iadd (pc := 6) dX10_beginRow_6 ?_
  obtain ⟨a5, s4, e6, h⟩ := jI h
  refine y_putI (pc := 7) flRX10_139 dX10_beginRow_7 rfl (Or.inl rfl) a5 e6 ?_
  refine z_aload_n (pc := 10) 0 rfl dX10_beginRow_10 rfl ?_
  obtain ⟨a8, x7, e9, h⟩ := iR h
  refine y_getR (pc := 11) flRX10_42 dX10_beginRow_11 rfl a8 e9 ?_
  refine z_aload_n (pc := 14) 0 rfl dX10_beginRow_14 rfl ?_
  obtain ⟨a11, x10, e12, h⟩ := iI h
  refine y_getI (pc := 15) flRX10_139 dX10_beginRow_15 rfl a11 e12 ?_
  refine z_aload_n (pc := 18) 0 rfl dX10_beginRow_18 rfl ?_
  obtain ⟨a14, x13, e15, h⟩ := iI h
  refine y_getI (pc := 19) flRX10_142 dX10_beginRow_19 rfl a14 e15 ?_
  obtain ⟨a17, s16, e18, h⟩ := kI h
  refine y_iast (pc := 22) dX10_beginRow_22 a17 e18 ?_
  refine z_aload_n (pc := 23) 0 rfl dX10_beginRow_23 rfl ?_
  obtain ⟨a20, x19, e21, h⟩ := iR h
  refine y_getR (pc := 24) flRX10_45 dX10_beginRow_24 rfl a20 e21 ?_
  refine z_aload_n (pc := 27) 0 rfl dX10_beginRow_27 rfl ?_
  obtain ⟨a23, x22, e24, h⟩ := iI h
  refine y_getI (pc := 28) flRX10_139 dX10_beginRow_28 rfl a23 e24 ?_
  refine z_iconst (pc := 31) (v := 0) dX10_beginRow_31 (by decide) ?_
  obtain ⟨a26, s25, e27, h⟩ := kI h
  refine y_iast (pc := 32) dX10_beginRow_32 a26 e27 ?_
  refine z_aload_n (pc := 33) 0 rfl dX10_beginRow_33 rfl ?_
  obtain ⟨a29, x28, e30, h⟩ := iR h
  refine y_getR (pc := 34) flRX10_51 dX10_beginRow_34 rfl a29 e30 ?_
  refine z_aload_n (pc := 37) 0 rfl dX10_beginRow_37 rfl ?_
  obtain ⟨a32, x31, e33, h⟩ := iI h
  refine y_getI (pc := 38) flRX10_139 dX10_beginRow_38 rfl a32 e33 ?_
  refine z_iconst (pc := 41) (v := 0) dX10_beginRow_41 (by decide) ?_
  obtain ⟨a35, s34, e36, h⟩ := kZ h
  refine y_zast (pc := 42) dX10_beginRow_42 a35 e36 ?_
  refine z_aload_n (pc := 43) 0 rfl dX10_beginRow_43 rfl ?_
  refine z_iconst (pc := 44) (v := 0) dX10_beginRow_44 (by decide) ?_
  obtain ⟨a38, s37, e39, h⟩ := jI h
  refine y_putI (pc := 45) flRX10_151 dX10_beginRow_45 rfl (Or.inl rfl) a38 e39 ?_
  exact y_ret (pc := 48) dX10_beginRow_48 rfl h
def fX10_literal_89  (n : Nat) : Nat → Int32 → Int32 → zS → Option zS := match n with
  | 0 => fun _ _ _ _ => none
  | n + 1 => fun l0 l1 l3 s =>
    bnd (qI s 10 l0 27) fun x31 =>
    if x31 ≤ l3 then
      bnd (qR s 10 l0 24) fun x34 =>
      bnd (qI s 10 l0 27) fun x37 =>
      bnd (uI s x34 x37 l1) fun s40 =>
      bnd (qI s40 10 l0 27) fun x43 =>
      bnd (wI s40 10 l0 27 (x43 + 1)) fun s46 =>
      bnd (qR s46 10 l0 23) fun x49 =>
      bnd (qI s46 10 l0 26) fun x52 =>
      bnd (qA s46 12 x49 x52) fun x55 =>
      bnd (uI s46 x49 x52 (x55 + 1)) fun s58 =>
      some s58
    else
      bnd (qR s 10 l0 24) fun x61 =>
      bnd (qA s 12 x61 l3) fun x64 =>
      if x64 = l1 then
        some s
      else
        (fX10_literal_89  n) l0 l1 (l3 + 1) s
set_option maxRecDepth 100000 in
set_option maxHeartbeats 4000000 in
theorem bX10_literal_89 {E : zE}  : ∀ (n : Nat) {l0 : Nat} {l1 : Int32} {l3 : Int32} {s : zS} {q : zS}, fX10_literal_89  n l0 l1 l3 s = some q → Z E mX10_literal 89 [(0, .ref l0), (1, .int l1), (3, .int l3)] [] s (0, 0) (zRv E mX10_literal q) := by
  intro n
  induction n with
  | zero => intro l0 l1 l3 s q h; cases h
  | succ n ih =>
    intro l0 l1 l3 s q h
    unfold fX10_literal_89 at h
    refine z_iload_n (pc := 89) 2 rfl dX10_literal_89 rfl ?_
    refine z_aload_n (pc := 90) 0 rfl dX10_literal_90 rfl ?_
    obtain ⟨a32, x31, e33, h⟩ := iI h
    refine y_getI (pc := 91) flRX10_142 dX10_literal_91 rfl a32 e33 ?_
    refine z_icmp_ge (pc := 94) (tgt := 114) dX10_literal_94 (by decide) (fun hc => ?_) (fun hc => ?_)
    · replace h := ifp hc h
      refine z_aload_n (pc := 114) 0 rfl dX10_literal_114 rfl ?_
      obtain ⟨a35, x34, e36, h⟩ := iR h
      refine y_getR (pc := 115) flRX10_48 dX10_literal_115 rfl a35 e36 ?_
      refine z_aload_n (pc := 118) 0 rfl dX10_literal_118 rfl ?_
      obtain ⟨a38, x37, e39, h⟩ := iI h
      refine y_getI (pc := 119) flRX10_142 dX10_literal_119 rfl a38 e39 ?_
      refine z_iload_n (pc := 122) 1 rfl dX10_literal_122 rfl ?_
      obtain ⟨a41, s40, e42, h⟩ := kI h
      refine y_iast (pc := 123) dX10_literal_123 a41 e42 ?_
      refine z_aload_n (pc := 124) 0 rfl dX10_literal_124 rfl ?_
      refine z_dup (pc := 125) dX10_literal_125 (fun _ => rfl) ?_
      obtain ⟨a44, x43, e45, h⟩ := iI h
      refine y_getI (pc := 126) flRX10_142 dX10_literal_126 rfl a44 e45 ?_
      refine z_iconst (pc := 129) (v := 1) dX10_literal_129 (by decide) ?_
      refine z_iadd (pc := 130) dX10_literal_130 ?_
      obtain ⟨a47, s46, e48, h⟩ := jI h
      refine y_putI (pc := 131) flRX10_142 dX10_literal_131 rfl (Or.inl rfl) a47 e48 ?_
      refine z_aload_n (pc := 134) 0 rfl dX10_literal_134 rfl ?_
      obtain ⟨a50, x49, e51, h⟩ := iR h
      refine y_getR (pc := 135) flRX10_45 dX10_literal_135 rfl a50 e51 ?_
      refine z_aload_n (pc := 138) 0 rfl dX10_literal_138 rfl ?_
      obtain ⟨a53, x52, e54, h⟩ := iI h
      refine y_getI (pc := 139) flRX10_139 dX10_literal_139 rfl a53 e54 ?_
      refine z_dup2 (pc := 142) dX10_literal_142 (fun _ => rfl) (fun _ => rfl) ?_
      obtain ⟨a56, x55, e57, h⟩ := iA h
      refine y_iald (pc := 143) dX10_literal_143 a56 e57 ?_
      refine z_iconst (pc := 144) (v := 1) dX10_literal_144 (by decide) ?_
      refine z_iadd (pc := 145) dX10_literal_145 ?_
      obtain ⟨a59, s58, e60, h⟩ := kI h
      refine y_iast (pc := 146) dX10_literal_146 a59 e60 ?_
      exact y_ret (pc := 147) dX10_literal_147 rfl h
    · replace h := ifn hc h
      refine z_aload_n (pc := 97) 0 rfl dX10_literal_97 rfl ?_
      obtain ⟨a62, x61, e63, h⟩ := iR h
      refine y_getR (pc := 98) flRX10_48 dX10_literal_98 rfl a62 e63 ?_
      refine z_iload_n (pc := 101) 2 rfl dX10_literal_101 rfl ?_
      obtain ⟨a65, x64, e66, h⟩ := iA h
      refine y_iald (pc := 102) dX10_literal_102 a65 e66 ?_
      refine z_iload_n (pc := 103) 1 rfl dX10_literal_103 rfl ?_
      refine z_icmp_ne (pc := 104) (tgt := 108) dX10_literal_104 (by decide) (fun hc => ?_) (fun hc => ?_)
      · replace h := ifn hc h
        refine z_iinc (pc := 108) (v := (l3 + 1)) (ls' := [(3, .int (l3 + 1)), (0, .ref l0), (1, .int l1)]) 2 rfl rfl dX10_literal_108 (by decide) (fun _ => rfl) ?_
        refine z_goto (pc := 111) (tgt := 89) dX10_literal_111 (by decide) ?_
        exact z_sub [1, 2, 0] rfl (ih h)
      · replace h := ifp hc h
        exact y_ret (pc := 107) dX10_literal_107 rfl h
def fX10_literal_51  (l0 : Nat) (l1 : Int32) (s : zS) : Option zS :=
  bnd (qI s 10 l0 8) fun x7 =>
  if x7 = 0 then
    bnd (qI s 10 l0 29) fun x10 =>
    bnd (wI s 10 l0 29 (x10 + 1)) fun s13 =>
    bnd (qI s13 10 l0 28) fun x16 =>
    bnd (wI s13 10 l0 28 (x16 + 1)) fun s19 =>
    bnd (qR s19 10 l0 22) fun x22 =>
    bnd (qI s19 10 l0 26) fun x25 =>
    bnd (qA s19 12 x22 x25) fun x28 =>
    fX10_literal_89  zfu l0 l1 x28 s19
  else
    some s
set_option maxRecDepth 100000 in
set_option maxHeartbeats 4000000 in
theorem bX10_literal_51 {E : zE}   {l0 : Nat} {l1 : Int32} {s : zS} {q : zS} (h : fX10_literal_51  l0 l1 s = some q) : Z E mX10_literal 51 [(0, .ref l0), (1, .int l1)] [] s (0, 0) (zRv E mX10_literal q) := by
  unfold fX10_literal_51 at h
  refine z_aload_n (pc := 51) 0 rfl dX10_literal_51 rfl ?_
  obtain ⟨a8, x7, e9, h⟩ := iI h
  refine y_getI (pc := 52) flRX10_102 dX10_literal_52 rfl a8 e9 ?_
  refine z_if_eq (pc := 55) (tgt := 59) dX10_literal_55 (by decide) (fun hc => ?_) (fun hc => ?_)
  · replace h := ifp hc h
    refine z_aload_n (pc := 59) 0 rfl dX10_literal_59 rfl ?_
    refine z_dup (pc := 60) dX10_literal_60 (fun _ => rfl) ?_
    obtain ⟨a11, x10, e12, h⟩ := iI h
    refine y_getI (pc := 61) flRX10_151 dX10_literal_61 rfl a11 e12 ?_
    refine z_iconst (pc := 64) (v := 1) dX10_literal_64 (by decide) ?_
    refine z_iadd (pc := 65) dX10_literal_65 ?_
    obtain ⟨a14, s13, e15, h⟩ := jI h
    refine y_putI (pc := 66) flRX10_151 dX10_literal_66 rfl (Or.inl rfl) a14 e15 ?_
    refine z_aload_n (pc := 69) 0 rfl dX10_literal_69 rfl ?_
    refine z_dup (pc := 70) dX10_literal_70 (fun _ => rfl) ?_
    obtain ⟨a17, x16, e18, h⟩ := iI h
    refine y_getI (pc := 71) flRX10_145 dX10_literal_71 rfl a17 e18 ?_
    refine z_iconst (pc := 74) (v := 1) dX10_literal_74 (by decide) ?_
    refine z_iadd (pc := 75) dX10_literal_75 ?_
    obtain ⟨a20, s19, e21, h⟩ := jI h
    refine y_putI (pc := 76) flRX10_145 dX10_literal_76 rfl (Or.inl rfl) a20 e21 ?_
    refine z_aload_n (pc := 79) 0 rfl dX10_literal_79 rfl ?_
    obtain ⟨a23, x22, e24, h⟩ := iR h
    refine y_getR (pc := 80) flRX10_42 dX10_literal_80 rfl a23 e24 ?_
    refine z_aload_n (pc := 83) 0 rfl dX10_literal_83 rfl ?_
    obtain ⟨a26, x25, e27, h⟩ := iI h
    refine y_getI (pc := 84) flRX10_139 dX10_literal_84 rfl a26 e27 ?_
    obtain ⟨a29, x28, e30, h⟩ := iA h
    refine y_iald (pc := 87) dX10_literal_87 a29 e30 ?_
    refine z_istore_n (pc := 88) (ls' := [(3, .int x28), (0, .ref l0), (1, .int l1)]) dX10_literal_88 rfl (by decide) (fun _ => rfl) ?_
    exact z_sub [1, 2, 0] rfl (bX10_literal_89  _ h)
  · replace h := ifn hc h
    exact y_ret (pc := 58) dX10_literal_58 rfl h
def fX10_literal_17  (l0 : Nat) (l1 : Int32) (l2 : Int32) (s : zS) : Option zS :=
  bnd (cl s 10 l0 (fX10_wrong l0 2 l2 s)) fun q4 =>
  fX10_literal_51  l0 l1 q4
set_option maxRecDepth 100000 in
set_option maxHeartbeats 4000000 in
theorem bX10_literal_17 {E : zE}   {l0 : Nat} {l1 : Int32} {l2 : Int32} {s : zS} {q : zS} (h : fX10_literal_17  l0 l1 l2 s = some q) : Z E mX10_literal 17 [(0, .ref l0), (1, .int l1), (2, .int l2)] [] s (0, 0) (zRv E mX10_literal q) := by
  unfold fX10_literal_17 at h
  refine z_aload_n (pc := 17) 0 rfl dX10_literal_17 rfl ?_
  refine z_iconst (pc := 18) (v := 2) dX10_literal_18 (by decide) ?_
  refine z_iload_n (pc := 19) 2 rfl dX10_literal_19 rfl ?_
  obtain ⟨a5, q4, e6, h⟩ := iC h
  refine y_V (pc := 20) (M2 := mX10_wrong) (As := [.int 2, .int l2]) (okX10_wrong e6) mvX10_wrong mlRX10_128 dX10_literal_20 ⟨by decide, by decide⟩ rfl rfl rfl zrest0 a5 ?_
  refine z_goto (pc := 23) (tgt := 51) dX10_literal_23 (by decide) ?_
  exact z_sub [0, 1] rfl (bX10_literal_51  h)
def fX10_literal_45  (l0 : Nat) (l1 : Int32) (l2 : Int32) (s : zS) : Option zS :=
  bnd (cl s 10 l0 (fX10_wrong l0 3 l2 s)) fun q10 =>
  fX10_literal_51  l0 l1 q10
set_option maxRecDepth 100000 in
set_option maxHeartbeats 4000000 in
theorem bX10_literal_45 {E : zE}   {l0 : Nat} {l1 : Int32} {l2 : Int32} {s : zS} {q : zS} (h : fX10_literal_45  l0 l1 l2 s = some q) : Z E mX10_literal 45 [(0, .ref l0), (1, .int l1), (2, .int l2)] [] s (0, 0) (zRv E mX10_literal q) := by
  unfold fX10_literal_45 at h
  refine z_aload_n (pc := 45) 0 rfl dX10_literal_45 rfl ?_
  refine z_iconst (pc := 46) (v := 3) dX10_literal_46 (by decide) ?_
  refine z_iload_n (pc := 47) 2 rfl dX10_literal_47 rfl ?_
  obtain ⟨a11, q10, e12, h⟩ := iC h
  refine y_V (pc := 48) (M2 := mX10_wrong) (As := [.int 3, .int l2]) (okX10_wrong e12) mvX10_wrong mlRX10_128 dX10_literal_48 ⟨by decide, by decide⟩ rfl rfl rfl zrest0 a11 ?_
  exact z_sub [0, 1] rfl (bX10_literal_51  h)
def fX10_literal (l0 : Nat) (l1 : Int32) (l2 : Int32) (s : zS) : Option zS :=
  bnd (qI s 10 l0 30) fun x1 =>
  if l1 < (-x1) then
    fX10_literal_17  l0 l1 l2 s
  else
    bnd (qI s 10 l0 30) fun x4 =>
    if l1 ≤ x4 then
      bnd (qI s 10 l0 29) fun x7 =>
      if x7 = 40 then
        fX10_literal_45  l0 l1 l2 s
      else
        bnd (qI s 10 l0 28) fun x10 =>
        if x10 = 2000 then
          fX10_literal_45  l0 l1 l2 s
        else
          fX10_literal_51  l0 l1 s
    else
      fX10_literal_17  l0 l1 l2 s
set_option maxRecDepth 100000 in
set_option maxHeartbeats 4000000 in
theorem okX10_literal {E : zE} {l0 : Nat} {l1 : Int32} {l2 : Int32} {s : zS} {t : zS} (h : fX10_literal l0 l1 l2 s = some t) : Cv E mX10_literal [.ref l0, .int l1, .int l2] s t := by
  refine Ct.of (ls := [(0, .ref l0), (1, .int l1), (2, .int l2)]) (by decide) rfl (Nat.le_of_ble_eq_true rfl) ?_
  show Z E mX10_literal 0 [(0, .ref l0), (1, .int l1), (2, .int l2)] [] s (0, 0) (zRv E mX10_literal t)
  unfold fX10_literal at h
  refine z_iload_n (pc := 0) 1 rfl dX10_literal_0 rfl ?_
  refine z_aload_n (pc := 1) 0 rfl dX10_literal_1 rfl ?_
  obtain ⟨a2, x1, e3, h⟩ := iI h
  refine y_getI (pc := 2) flRX10_148 dX10_literal_2 rfl a2 e3 ?_
  refine z_ineg (pc := 5) dX10_literal_5 ?_
  refine z_icmp_lt (pc := 6) (tgt := 17) dX10_literal_6 (by decide) (fun hc => ?_) (fun hc => ?_)
  · replace h := ifp hc h
    exact z_sub [0, 1, 2] rfl (bX10_literal_17  h)
  · replace h := ifn hc h
    refine z_iload_n (pc := 9) 1 rfl dX10_literal_9 rfl ?_
    refine z_aload_n (pc := 10) 0 rfl dX10_literal_10 rfl ?_
    obtain ⟨a5, x4, e6, h⟩ := iI h
    refine y_getI (pc := 11) flRX10_148 dX10_literal_11 rfl a5 e6 ?_
    refine z_icmp_le (pc := 14) (tgt := 26) dX10_literal_14 (by decide) (fun hc => ?_) (fun hc => ?_)
    · replace h := ifp hc h
      refine z_aload_n (pc := 26) 0 rfl dX10_literal_26 rfl ?_
      obtain ⟨a8, x7, e9, h⟩ := iI h
      refine y_getI (pc := 27) flRX10_151 dX10_literal_27 rfl a8 e9 ?_
      refine z_bipush (pc := 30) (v := 40) dX10_literal_30 (by decide) ?_
      refine z_icmp_eq (pc := 32) (tgt := 45) dX10_literal_32 (by decide) (fun hc => ?_) (fun hc => ?_)
      · replace h := ifp hc h
        exact z_sub [0, 1, 2] rfl (bX10_literal_45  h)
      · replace h := ifn hc h
        refine z_aload_n (pc := 35) 0 rfl dX10_literal_35 rfl ?_
        obtain ⟨a11, x10, e12, h⟩ := iI h
        refine y_getI (pc := 36) flRX10_145 dX10_literal_36 rfl a11 e12 ?_
        refine z_sipush (pc := 39) (v := 2000) dX10_literal_39 (by decide) ?_
        refine z_icmp_ne (pc := 42) (tgt := 51) dX10_literal_42 (by decide) (fun hc => ?_) (fun hc => ?_)
        · replace h := ifn hc h
          exact z_sub [0, 1] rfl (bX10_literal_51  h)
        · replace h := ifp hc h
          exact z_sub [0, 1, 2] rfl (bX10_literal_45  h)
    · replace h := ifn hc h
      exact z_sub [0, 1, 2] rfl (bX10_literal_17  h)
def fX10_readRowOf_74 (k15 : Nat → Int32 → Int32 → zS → Option zS) (l0 : Nat) (l2 : Int32) (t0 : Int32) (s : zS) : Option zS :=
  k15 l0 l2 t0 s
set_option maxRecDepth 100000 in
set_option maxHeartbeats 4000000 in
theorem bX10_readRowOf_74 {E : zE} {k15 : Nat → Int32 → Int32 → zS → Option zS} (hk15 : ∀ {l0 : Nat} {l2 : Int32} {l3 : Int32} {s : zS} {q : zS}, k15 l0 l2 l3 s = some q → Z E mX10_readRowOf 15 [(0, .ref l0), (2, .int l2), (3, .int l3)] [] s (0, 0) (zRv E mX10_readRowOf q)) {l0 : Nat} {l2 : Int32} {t0 : Int32} {s : zS} {q : zS} (h : fX10_readRowOf_74 k15 l0 l2 t0 s = some q) : Z E mX10_readRowOf 74 [(0, .ref l0), (2, .int l2)] [.int t0] s (0, 0) (zRv E mX10_readRowOf q) := by
  unfold fX10_readRowOf_74 at h
  refine z_istore_n (pc := 74) (ls' := [(3, .int t0), (0, .ref l0), (2, .int l2)]) dX10_readRowOf_74 rfl (by decide) (fun _ => rfl) ?_
  refine z_goto (pc := 75) (tgt := 15) dX10_readRowOf_75 (by decide) ?_
  exact z_sub [1, 2, 0] rfl (hk15 h)
def fX10_readRowOf_73 (k15 : Nat → Int32 → Int32 → zS → Option zS) (l0 : Nat) (l2 : Int32) (s : zS) : Option zS :=
  fX10_readRowOf_74 (k15) l0 l2 0 s
set_option maxRecDepth 100000 in
set_option maxHeartbeats 4000000 in
theorem bX10_readRowOf_73 {E : zE} {k15 : Nat → Int32 → Int32 → zS → Option zS} (hk15 : ∀ {l0 : Nat} {l2 : Int32} {l3 : Int32} {s : zS} {q : zS}, k15 l0 l2 l3 s = some q → Z E mX10_readRowOf 15 [(0, .ref l0), (2, .int l2), (3, .int l3)] [] s (0, 0) (zRv E mX10_readRowOf q)) {l0 : Nat} {l2 : Int32} {s : zS} {q : zS} (h : fX10_readRowOf_73 k15 l0 l2 s = some q) : Z E mX10_readRowOf 73 [(0, .ref l0), (2, .int l2)] [] s (0, 0) (zRv E mX10_readRowOf q) := by
  unfold fX10_readRowOf_73 at h
  refine z_iconst (pc := 73) (v := 0) dX10_readRowOf_73 (by decide) ?_
  exact z_sub [0, 1] rfl (bX10_readRowOf_74 (fun h => hk15 h) h)
def fX10_readRowOf_57 (k15 : Nat → Int32 → Int32 → zS → Option zS) (l0 : Nat) (l2 : Int32) (l4 : Int32) (s : zS) : Option zS :=
  bnd (qI s 10 l0 8) fun x10 =>
  if x10 = 0 then
    if l4 = 0 then
      fX10_readRowOf_73 (k15) l0 l2 s
    else
      fX10_readRowOf_74 (k15) l0 l2 1 s
  else
    fX10_readRowOf_73 (k15) l0 l2 s
set_option maxRecDepth 100000 in
set_option maxHeartbeats 4000000 in
theorem bX10_readRowOf_57 {E : zE} {k15 : Nat → Int32 → Int32 → zS → Option zS} (hk15 : ∀ {l0 : Nat} {l2 : Int32} {l3 : Int32} {s : zS} {q : zS}, k15 l0 l2 l3 s = some q → Z E mX10_readRowOf 15 [(0, .ref l0), (2, .int l2), (3, .int l3)] [] s (0, 0) (zRv E mX10_readRowOf q)) {l0 : Nat} {l2 : Int32} {l4 : Int32} {s : zS} {q : zS} (h : fX10_readRowOf_57 k15 l0 l2 l4 s = some q) : Z E mX10_readRowOf 57 [(0, .ref l0), (2, .int l2), (4, .int l4)] [] s (0, 0) (zRv E mX10_readRowOf q) := by
  unfold fX10_readRowOf_57 at h
  refine z_aload_n (pc := 57) 0 rfl dX10_readRowOf_57 rfl ?_
  obtain ⟨a11, x10, e12, h⟩ := iI h
  refine y_getI (pc := 58) flRX10_102 dX10_readRowOf_58 rfl a11 e12 ?_
  refine z_if_ne (pc := 61) (tgt := 73) dX10_readRowOf_61 (by decide) (fun hc => ?_) (fun hc => ?_)
  · replace h := ifn hc h
    exact z_sub [0, 1] rfl (bX10_readRowOf_73 (fun h => hk15 h) h)
  · replace h := ifp hc h
    refine z_iload (pc := 64) 2 rfl dX10_readRowOf_64 ?_
    refine z_if_eq (pc := 66) (tgt := 73) dX10_readRowOf_66 (by decide) (fun hc => ?_) (fun hc => ?_)
    · replace h := ifp hc h
      exact z_sub [0, 1] rfl (bX10_readRowOf_73 (fun h => hk15 h) h)
    · replace h := ifn hc h
      refine z_iconst (pc := 69) (v := 1) dX10_readRowOf_69 (by decide) ?_
      refine z_goto (pc := 70) (tgt := 74) dX10_readRowOf_70 (by decide) ?_
      exact z_sub [0, 1] rfl (bX10_readRowOf_74 (fun h => hk15 h) h)
def fX10_readRowOf_27 (k15 : Nat → Int32 → Int32 → zS → Option zS) (l0 : Nat) (s : zS) : Option zS :=
  bnd (cl s 10 l0 (fX10_number l0  s)) fun q4 =>
  bnd (qI q4.2 10 l0 8) fun x7 =>
  if x7 = 0 then
    if q4.1 = 0 then
      fX10_readRowOf_57 (k15) l0 0 q4.1 q4.2
    else
      bnd (qI q4.2 10 l0 6) fun x10 =>
      bnd (cl q4.2 10 l0 (fX10_literal l0 q4.1 x10 q4.2)) fun q13 =>
      fX10_readRowOf_57 (k15) l0 0 q4.1 q13
  else
    fX10_readRowOf_57 (k15) l0 0 q4.1 q4.2
set_option maxRecDepth 100000 in
set_option maxHeartbeats 4000000 in
theorem bX10_readRowOf_27 {E : zE} {k15 : Nat → Int32 → Int32 → zS → Option zS} (hk15 : ∀ {l0 : Nat} {l2 : Int32} {l3 : Int32} {s : zS} {q : zS}, k15 l0 l2 l3 s = some q → Z E mX10_readRowOf 15 [(0, .ref l0), (2, .int l2), (3, .int l3)] [] s (0, 0) (zRv E mX10_readRowOf q)) {l0 : Nat} {s : zS} {q : zS} (h : fX10_readRowOf_27 k15 l0 s = some q) : Z E mX10_readRowOf 27 [(0, .ref l0)] [] s (0, 0) (zRv E mX10_readRowOf q) := by
  unfold fX10_readRowOf_27 at h
  refine z_iconst (pc := 27) (v := 0) dX10_readRowOf_27 (by decide) ?_
  refine z_istore_n (pc := 28) (ls' := [(2, .int 0), (0, .ref l0)]) dX10_readRowOf_28 rfl (by decide) (fun _ => rfl) ?_
  refine z_aload_n (pc := 29) 1 rfl dX10_readRowOf_29 rfl ?_
  obtain ⟨a5, q4, e6, h⟩ := iC h
  refine y_Vi (pc := 30) (M2 := mX10_number) (As := []) (okX10_number e6) mvX10_number mlRX10_135 dX10_readRowOf_30 ⟨by decide, by decide⟩ rfl rfl rfl zrest0 a5 ?_
  refine z_istore (pc := 33) (ls' := [(4, .int q4.1), (2, .int 0), (0, .ref l0)]) dX10_readRowOf_33 (by decide) (fun _ => rfl) ?_
  refine z_aload_n (pc := 35) 2 rfl dX10_readRowOf_35 rfl ?_
  obtain ⟨a8, x7, e9, h⟩ := iI h
  refine y_getI (pc := 36) flRX10_102 dX10_readRowOf_36 rfl a8 e9 ?_
  refine z_if_ne (pc := 39) (tgt := 57) dX10_readRowOf_39 (by decide) (fun hc => ?_) (fun hc => ?_)
  · replace h := ifn hc h
    exact z_sub [2, 1, 0] rfl (bX10_readRowOf_57 (fun h => hk15 h) h)
  · replace h := ifp hc h
    refine z_iload (pc := 42) 0 rfl dX10_readRowOf_42 ?_
    refine z_if_eq (pc := 44) (tgt := 57) dX10_readRowOf_44 (by decide) (fun hc => ?_) (fun hc => ?_)
    · replace h := ifp hc h
      exact z_sub [2, 1, 0] rfl (bX10_readRowOf_57 (fun h => hk15 h) h)
    · replace h := ifn hc h
      refine z_aload_n (pc := 47) 2 rfl dX10_readRowOf_47 rfl ?_
      refine z_iload (pc := 48) 0 rfl dX10_readRowOf_48 ?_
      refine z_aload_n (pc := 50) 2 rfl dX10_readRowOf_50 rfl ?_
      obtain ⟨a11, x10, e12, h⟩ := iI h
      refine y_getI (pc := 51) flRX10_118 dX10_readRowOf_51 rfl a11 e12 ?_
      obtain ⟨a14, q13, e15, h⟩ := iC h
      refine y_V (pc := 54) (M2 := mX10_literal) (As := [.int q4.1, .int x10]) (okX10_literal e15) mvX10_literal mlRX10_154 dX10_readRowOf_54 ⟨by decide, by decide⟩ rfl rfl rfl zrest0 a14 ?_
      exact z_sub [2, 1, 0] rfl (bX10_readRowOf_57 (fun h => hk15 h) h)
def fX10_readRowOf_15  (n : Nat) : Nat → Int32 → Int32 → zS → Option zS := match n with
  | 0 => fun _ _ _ _ => none
  | n + 1 => fun l0 l2 l3 s =>
    if l3 = 0 then
      some s
    else
      if l2 = 0 then
        bnd (cl s 10 l0 (fX10_need l0  s)) fun q4 =>
        fX10_readRowOf_27 ((fX10_readRowOf_15  n)) l0 q4
      else
        fX10_readRowOf_27 ((fX10_readRowOf_15  n)) l0 s
set_option maxRecDepth 100000 in
set_option maxHeartbeats 4000000 in
theorem bX10_readRowOf_15 {E : zE}  : ∀ (n : Nat) {l0 : Nat} {l2 : Int32} {l3 : Int32} {s : zS} {q : zS}, fX10_readRowOf_15  n l0 l2 l3 s = some q → Z E mX10_readRowOf 15 [(0, .ref l0), (2, .int l2), (3, .int l3)] [] s (0, 0) (zRv E mX10_readRowOf q) := by
  intro n
  induction n with
  | zero => intro l0 l2 l3 s q h; cases h
  | succ n ih =>
    intro l0 l2 l3 s q h
    unfold fX10_readRowOf_15 at h
    refine z_iload_n (pc := 15) 2 rfl dX10_readRowOf_15 rfl ?_
    refine z_if_eq (pc := 16) (tgt := 78) dX10_readRowOf_16 (by decide) (fun hc => ?_) (fun hc => ?_)
    · replace h := ifp hc h
      exact y_ret (pc := 78) dX10_readRowOf_78 rfl h
    · replace h := ifn hc h
      refine z_iload_n (pc := 19) 1 rfl dX10_readRowOf_19 rfl ?_
      refine z_if_ne (pc := 20) (tgt := 27) dX10_readRowOf_20 (by decide) (fun hc => ?_) (fun hc => ?_)
      · replace h := ifn hc h
        exact z_sub [0] rfl (bX10_readRowOf_27 (fun h => ih h) h)
      · replace h := ifp hc h
        refine z_aload_n (pc := 23) 0 rfl dX10_readRowOf_23 rfl ?_
        obtain ⟨a5, q4, e6, h⟩ := iC h
        refine y_V (pc := 24) (M2 := mX10_need) (As := []) (okX10_need e6) mvX10_need mlRX10_132 dX10_readRowOf_24 ⟨by decide, by decide⟩ rfl rfl rfl zrest0 a5 ?_
        exact z_sub [0] rfl (bX10_readRowOf_27 (fun h => ih h) h)
def fX10_readRowOf_14  (l0 : Nat) (l2 : Int32) (t0 : Int32) (s : zS) : Option zS :=
  fX10_readRowOf_15  zfu l0 l2 t0 s
set_option maxRecDepth 100000 in
set_option maxHeartbeats 4000000 in
theorem bX10_readRowOf_14 {E : zE}   {l0 : Nat} {l2 : Int32} {t0 : Int32} {s : zS} {q : zS} (h : fX10_readRowOf_14  l0 l2 t0 s = some q) : Z E mX10_readRowOf 14 [(0, .ref l0), (2, .int l2)] [.int t0] s (0, 0) (zRv E mX10_readRowOf q) := by
  unfold fX10_readRowOf_14 at h
  refine z_istore_n (pc := 14) (ls' := [(3, .int t0), (0, .ref l0), (2, .int l2)]) dX10_readRowOf_14 rfl (by decide) (fun _ => rfl) ?_
  exact z_sub [1, 2, 0] rfl (bX10_readRowOf_15  _ h)
def fX10_readRowOf (l0 : Nat) (l1 : Int32) (s : zS) : Option zS :=
  bnd (qI s 10 l0 8) fun x1 =>
  if x1 = 0 then
    fX10_readRowOf_14  l0 l1 1 s
  else
    fX10_readRowOf_14  l0 l1 0 s
set_option maxRecDepth 100000 in
set_option maxHeartbeats 4000000 in
theorem okX10_readRowOf {E : zE} {l0 : Nat} {l1 : Int32} {s : zS} {t : zS} (h : fX10_readRowOf l0 l1 s = some t) : Cv E mX10_readRowOf [.ref l0, .int l1] s t := by
  refine Ct.of (ls := [(0, .ref l0), (1, .int l1)]) (by decide) rfl (Nat.le_of_ble_eq_true rfl) ?_
  show Z E mX10_readRowOf 0 [(0, .ref l0), (1, .int l1)] [] s (0, 0) (zRv E mX10_readRowOf t)
  unfold fX10_readRowOf at h
  refine z_iload_n (pc := 0) 1 rfl dX10_readRowOf_0 rfl ?_
  refine z_istore_n (pc := 1) (ls' := [(2, .int l1), (0, .ref l0), (1, .int l1)]) dX10_readRowOf_1 rfl (by decide) (fun _ => rfl) ?_
  refine z_aload_n (pc := 2) 1 rfl dX10_readRowOf_2 rfl ?_
  obtain ⟨a2, x1, e3, h⟩ := iI h
  refine y_getI (pc := 3) flRX10_102 dX10_readRowOf_3 rfl a2 e3 ?_
  refine z_if_ne (pc := 6) (tgt := 13) dX10_readRowOf_6 (by decide) (fun hc => ?_) (fun hc => ?_)
  · replace h := ifn hc h
    refine z_iconst (pc := 13) (v := 0) dX10_readRowOf_13 (by decide) ?_
    exact z_sub [1, 0] rfl (bX10_readRowOf_14  h)
  · replace h := ifp hc h
    refine z_iconst (pc := 9) (v := 1) dX10_readRowOf_9 (by decide) ?_
    refine z_goto (pc := 10) (tgt := 14) dX10_readRowOf_10 (by decide) ?_
    exact z_sub [1, 0] rfl (bX10_readRowOf_14  h)
def fX10_number0_69 (k10 : Nat → Int32 → zS → Option zS) (l0 : Nat) (l1 : Int32) (t0 : Int32) (t1 : Int32) (t2 : Nat) (s : zS) : Option zS :=
  bnd (uI s t2 t1 t0) fun s28 =>
  k10 l0 (l1 + 1) s28
set_option maxRecDepth 100000 in
set_option maxHeartbeats 4000000 in
theorem bX10_number0_69 {E : zE} {k10 : Nat → Int32 → zS → Option zS} (hk10 : ∀ {l0 : Nat} {l1 : Int32} {s : zS} {q : zS}, k10 l0 l1 s = some q → Z E mX10_number0 10 [(0, .ref l0), (1, .int l1)] [] s (0, 0) (zRv E mX10_number0 q)) {l0 : Nat} {l1 : Int32} {t0 : Int32} {t1 : Int32} {t2 : Nat} {s : zS} {q : zS} (h : fX10_number0_69 k10 l0 l1 t0 t1 t2 s = some q) : Z E mX10_number0 69 [(0, .ref l0), (1, .int l1)] [.int t0, .int t1, .ref t2] s (0, 0) (zRv E mX10_number0 q) := by
  unfold fX10_number0_69 at h
  obtain ⟨a29, s28, e30, h⟩ := kI h
  refine y_iast (pc := 69) dX10_number0_69 a29 e30 ?_
  refine z_iinc (pc := 70) (v := (l1 + 1)) (ls' := [(1, .int (l1 + 1)), (0, .ref l0)]) 1 rfl rfl dX10_number0_70 (by decide) (fun _ => rfl) ?_
  refine z_goto (pc := 73) (tgt := 10) dX10_number0_73 (by decide) ?_
  exact z_sub [1, 0] rfl (hk10 h)
def fX10_number0_47 (k10 : Nat → Int32 → zS → Option zS) (l0 : Nat) (l1 : Int32) (s : zS) : Option zS :=
  bnd (qR s 10 l0 32) fun x16 =>
  bnd (qR s 10 l0 18) fun x19 =>
  bnd (qA s 13 x19 l1) fun x22 =>
  if x22 = 0 then
    bnd (qI s 10 l0 33) fun x25 =>
    fX10_number0_69 (k10) l0 l1 x25 l1 x16 s
  else
    fX10_number0_69 (k10) l0 l1 0 l1 x16 s
set_option maxRecDepth 100000 in
set_option maxHeartbeats 4000000 in
theorem bX10_number0_47 {E : zE} {k10 : Nat → Int32 → zS → Option zS} (hk10 : ∀ {l0 : Nat} {l1 : Int32} {s : zS} {q : zS}, k10 l0 l1 s = some q → Z E mX10_number0 10 [(0, .ref l0), (1, .int l1)] [] s (0, 0) (zRv E mX10_number0 q)) {l0 : Nat} {l1 : Int32} {s : zS} {q : zS} (h : fX10_number0_47 k10 l0 l1 s = some q) : Z E mX10_number0 47 [(0, .ref l0), (1, .int l1)] [] s (0, 0) (zRv E mX10_number0 q) := by
  unfold fX10_number0_47 at h
  refine z_aload_n (pc := 47) 0 rfl dX10_number0_47 rfl ?_
  obtain ⟨a17, x16, e18, h⟩ := iR h
  refine y_getR (pc := 48) flRX10_57 dX10_number0_48 rfl a17 e18 ?_
  refine z_iload_n (pc := 51) 1 rfl dX10_number0_51 rfl ?_
  refine z_aload_n (pc := 52) 0 rfl dX10_number0_52 rfl ?_
  obtain ⟨a20, x19, e21, h⟩ := iR h
  refine y_getR (pc := 53) flRX10_38 dX10_number0_53 rfl a20 e21 ?_
  refine z_iload_n (pc := 56) 1 rfl dX10_number0_56 rfl ?_
  obtain ⟨a23, x22, e24, h⟩ := iA h
  refine y_zald (pc := 57) dX10_number0_57 a23 e24 ?_
  refine z_if_eq (pc := 58) (tgt := 65) dX10_number0_58 (by decide) (fun hc => ?_) (fun hc => ?_)
  · replace h := ifp hc h
    refine z_aload_n (pc := 65) 0 rfl dX10_number0_65 rfl ?_
    obtain ⟨a26, x25, e27, h⟩ := iI h
    refine y_getI (pc := 66) flRX10_207 dX10_number0_66 rfl a26 e27 ?_
    exact z_sub [0, 1] rfl (bX10_number0_69 (fun h => hk10 h) h)
  · replace h := ifn hc h
    refine z_iconst (pc := 61) (v := 0) dX10_number0_61 (by decide) ?_
    refine z_goto (pc := 62) (tgt := 69) dX10_number0_62 (by decide) ?_
    exact z_sub [0, 1] rfl (bX10_number0_69 (fun h => hk10 h) h)
def fX10_number0_10  (n : Nat) : Nat → Int32 → zS → Option zS := match n with
  | 0 => fun _ _ _ => none
  | n + 1 => fun l0 l1 s =>
    bnd (qI s 10 l0 20) fun x7 =>
    if x7 < l1 then
      some s
    else
      bnd (qR s 10 l0 18) fun x10 =>
      bnd (qA s 13 x10 l1) fun x13 =>
      if x13 = 0 then
        bnd (qI s 10 l0 33) fun x16 =>
        bnd (wI s 10 l0 33 (x16 + 1)) fun s19 =>
        bnd (qR s19 10 l0 31) fun x22 =>
        bnd (qI s19 10 l0 33) fun x25 =>
        bnd (uI s19 x22 x25 l1) fun s28 =>
        fX10_number0_47 ((fX10_number0_10  n)) l0 l1 s28
      else
        fX10_number0_47 ((fX10_number0_10  n)) l0 l1 s
set_option maxRecDepth 100000 in
set_option maxHeartbeats 4000000 in
theorem bX10_number0_10 {E : zE}  : ∀ (n : Nat) {l0 : Nat} {l1 : Int32} {s : zS} {q : zS}, fX10_number0_10  n l0 l1 s = some q → Z E mX10_number0 10 [(0, .ref l0), (1, .int l1)] [] s (0, 0) (zRv E mX10_number0 q) := by
  intro n
  induction n with
  | zero => intro l0 l1 s q h; cases h
  | succ n ih =>
    intro l0 l1 s q h
    unfold fX10_number0_10 at h
    refine z_iload_n (pc := 10) 1 rfl dX10_number0_10 rfl ?_
    refine z_aload_n (pc := 11) 0 rfl dX10_number0_11 rfl ?_
    obtain ⟨a8, x7, e9, h⟩ := iI h
    refine y_getI (pc := 12) flRX10_188 dX10_number0_12 rfl a8 e9 ?_
    refine z_icmp_gt (pc := 15) (tgt := 76) dX10_number0_15 (by decide) (fun hc => ?_) (fun hc => ?_)
    · replace h := ifp hc h
      exact y_ret (pc := 76) dX10_number0_76 rfl h
    · replace h := ifn hc h
      refine z_aload_n (pc := 18) 0 rfl dX10_number0_18 rfl ?_
      obtain ⟨a11, x10, e12, h⟩ := iR h
      refine y_getR (pc := 19) flRX10_38 dX10_number0_19 rfl a11 e12 ?_
      refine z_iload_n (pc := 22) 1 rfl dX10_number0_22 rfl ?_
      obtain ⟨a14, x13, e15, h⟩ := iA h
      refine y_zald (pc := 23) dX10_number0_23 a14 e15 ?_
      refine z_if_ne (pc := 24) (tgt := 47) dX10_number0_24 (by decide) (fun hc => ?_) (fun hc => ?_)
      · replace h := ifn hc h
        exact z_sub [0, 1] rfl (bX10_number0_47 (fun h => ih h) h)
      · replace h := ifp hc h
        refine z_aload_n (pc := 27) 0 rfl dX10_number0_27 rfl ?_
        refine z_dup (pc := 28) dX10_number0_28 (fun _ => rfl) ?_
        obtain ⟨a17, x16, e18, h⟩ := iI h
        refine y_getI (pc := 29) flRX10_207 dX10_number0_29 rfl a17 e18 ?_
        refine z_iconst (pc := 32) (v := 1) dX10_number0_32 (by decide) ?_
        refine z_iadd (pc := 33) dX10_number0_33 ?_
        obtain ⟨a20, s19, e21, h⟩ := jI h
        refine y_putI (pc := 34) flRX10_207 dX10_number0_34 rfl (Or.inl rfl) a20 e21 ?_
        refine z_aload_n (pc := 37) 0 rfl dX10_number0_37 rfl ?_
        obtain ⟨a23, x22, e24, h⟩ := iR h
        refine y_getR (pc := 38) flRX10_54 dX10_number0_38 rfl a23 e24 ?_
        refine z_aload_n (pc := 41) 0 rfl dX10_number0_41 rfl ?_
        obtain ⟨a26, x25, e27, h⟩ := iI h
        refine y_getI (pc := 42) flRX10_207 dX10_number0_42 rfl a26 e27 ?_
        refine z_iload_n (pc := 45) 1 rfl dX10_number0_45 rfl ?_
        obtain ⟨a29, s28, e30, h⟩ := kI h
        refine y_iast (pc := 46) dX10_number0_46 a29 e30 ?_
        exact z_sub [0, 1] rfl (bX10_number0_47 (fun h => ih h) h)
def fX10_number0 (l0 : Nat) (s : zS) : Option zS :=
  bnd (qI s 10 l0 19) fun x1 =>
  bnd (wI s 10 l0 33 x1) fun s4 =>
  fX10_number0_10  zfu l0 1 s4
set_option maxRecDepth 100000 in
set_option maxHeartbeats 4000000 in
theorem okX10_number0 {E : zE} {l0 : Nat} {s : zS} {t : zS} (h : fX10_number0 l0 s = some t) : Cv E mX10_number0 [.ref l0] s t := by
  refine Ct.of (ls := [(0, .ref l0)]) (by decide) rfl (Nat.le_of_ble_eq_true rfl) ?_
  show Z E mX10_number0 0 [(0, .ref l0)] [] s (0, 0) (zRv E mX10_number0 t)
  unfold fX10_number0 at h
  refine z_aload_n (pc := 0) 0 rfl dX10_number0_0 rfl ?_
  refine z_aload_n (pc := 1) 0 rfl dX10_number0_1 rfl ?_
  obtain ⟨a2, x1, e3, h⟩ := iI h
  refine y_getI (pc := 2) flRX10_185 dX10_number0_2 rfl a2 e3 ?_
  obtain ⟨a5, s4, e6, h⟩ := jI h
  refine y_putI (pc := 5) flRX10_207 dX10_number0_5 rfl (Or.inl rfl) a5 e6 ?_
  refine z_iconst (pc := 8) (v := 1) dX10_number0_8 (by decide) ?_
  refine z_istore_n (pc := 9) (ls' := [(1, .int 1), (0, .ref l0)]) dX10_number0_9 rfl (by decide) (fun _ => rfl) ?_
  exact z_sub [1, 0] rfl (bX10_number0_10  _ h)
def fX10_settled_24  (l0 : Nat) (t0 : Int32) (t1 : Nat) (s : zS) : Option (Int32 × zS) :=
  bnd (wI s 10 t1 11 t0) fun s13 =>
  bnd (qI s13 10 l0 8) fun x16 =>
  if x16 = 0 then
    gd ((1 : Int32) = 0 ∨ 1 = 1) (some (1, s13))
  else
    gd ((0 : Int32) = 0 ∨ 0 = 1) (some (0, s13))
set_option maxRecDepth 100000 in
set_option maxHeartbeats 4000000 in
theorem bX10_settled_24 {E : zE}   {l0 : Nat} {t0 : Int32} {t1 : Nat} {s : zS} {q : Int32 × zS} (h : fX10_settled_24  l0 t0 t1 s = some q) : Z E mX10_settled 24 [(0, .ref l0)] [.int t0, .ref t1] s (0, 0) (zRi E mX10_settled q.1 q.2) := by
  unfold fX10_settled_24 at h
  obtain ⟨a14, s13, e15, h⟩ := jI h
  refine y_putI (pc := 24) flRX10_16 dX10_settled_24 rfl (Or.inl rfl) a14 e15 ?_
  refine z_aload_n (pc := 27) 0 rfl dX10_settled_27 rfl ?_
  obtain ⟨a17, x16, e18, h⟩ := iI h
  refine y_getI (pc := 28) flRX10_102 dX10_settled_28 rfl a17 e18 ?_
  refine z_if_ne (pc := 31) (tgt := 38) dX10_settled_31 (by decide) (fun hc => ?_) (fun hc => ?_)
  · replace h := ifn hc h
    refine z_iconst (pc := 38) (v := 0) dX10_settled_38 (by decide) ?_
    exact y_zret (pc := 39) dX10_settled_39 rfl h
  · replace h := ifp hc h
    refine z_iconst (pc := 34) (v := 1) dX10_settled_34 (by decide) ?_
    refine z_goto (pc := 35) (tgt := 39) dX10_settled_35 (by decide) ?_
    exact y_zret (pc := 39) dX10_settled_39 rfl h
def fX10_settled (l0 : Nat) (s : zS) : Option (Int32 × zS) :=
  bnd (qI s 10 l0 8) fun x1 =>
  bnd (wI s 10 l0 10 x1) fun s4 =>
  bnd (qI s4 10 l0 8) fun x7 =>
  if x7 = 0 then
    fX10_settled_24  l0 (-1) l0 s4
  else
    bnd (qI s4 10 l0 9) fun x10 =>
    fX10_settled_24  l0 x10 l0 s4
set_option maxRecDepth 100000 in
set_option maxHeartbeats 4000000 in
theorem okX10_settled {E : zE} {l0 : Nat} {s : zS} {q : Int32 × zS} (h : fX10_settled l0 s = some q) : Ci E mX10_settled [.ref l0] s q.1 q.2 := by
  refine Ct.of (ls := [(0, .ref l0)]) (by decide) rfl (Nat.le_of_ble_eq_true rfl) ?_
  show Z E mX10_settled 0 [(0, .ref l0)] [] s (0, 0) (zRi E mX10_settled q.1 q.2)
  unfold fX10_settled at h
  refine z_aload_n (pc := 0) 0 rfl dX10_settled_0 rfl ?_
  refine z_aload_n (pc := 1) 0 rfl dX10_settled_1 rfl ?_
  obtain ⟨a2, x1, e3, h⟩ := iI h
  refine y_getI (pc := 2) flRX10_102 dX10_settled_2 rfl a2 e3 ?_
  obtain ⟨a5, s4, e6, h⟩ := jI h
  refine y_putI (pc := 5) flRX10_198 dX10_settled_5 rfl (Or.inl rfl) a5 e6 ?_
  refine z_aload_n (pc := 8) 0 rfl dX10_settled_8 rfl ?_
  refine z_aload_n (pc := 9) 0 rfl dX10_settled_9 rfl ?_
  obtain ⟨a8, x7, e9, h⟩ := iI h
  refine y_getI (pc := 10) flRX10_102 dX10_settled_10 rfl a8 e9 ?_
  refine z_if_ne (pc := 13) (tgt := 20) dX10_settled_13 (by decide) (fun hc => ?_) (fun hc => ?_)
  · replace h := ifn hc h
    refine z_aload_n (pc := 20) 0 rfl dX10_settled_20 rfl ?_
    obtain ⟨a11, x10, e12, h⟩ := iI h
    refine y_getI (pc := 21) flRX10_105 dX10_settled_21 rfl a11 e12 ?_
    exact z_sub [0] rfl (bX10_settled_24  h)
  · replace h := ifp hc h
    refine z_iconst (pc := 16) (v := (-1)) dX10_settled_16 (by decide) ?_
    refine z_goto (pc := 17) (tgt := 24) dX10_settled_17 (by decide) ?_
    exact z_sub [0] rfl (bX10_settled_24  h)
def fX10_take_2  (n : Nat) : Nat → Int32 → Int32 → zS → Option zS := match n with
  | 0 => fun _ _ _ _ => none
  | n + 1 => fun l0 l1 l2 s =>
    if l1 ≤ l2 then
      bnd (wI s 10 l0 4 l1) fun s1 =>
      bnd (wI s1 10 l0 2 0) fun s4 =>
      bnd (cl s4 10 l0 (fX10_beginRead l0 150 s4)) fun q7 =>
      some q7
    else
      bnd (qR s 10 l0 3) fun x10 =>
      bnd (qR s 10 l0 1) fun x13 =>
      bnd (qA s 12 x13 l2) fun x16 =>
      bnd (uI s x10 l2 x16) fun s19 =>
      (fX10_take_2  n) l0 l1 (l2 + 1) s19
set_option maxRecDepth 100000 in
set_option maxHeartbeats 4000000 in
theorem bX10_take_2 {E : zE}  : ∀ (n : Nat) {l0 : Nat} {l1 : Int32} {l2 : Int32} {s : zS} {q : zS}, fX10_take_2  n l0 l1 l2 s = some q → Z E mX10_take 2 [(0, .ref l0), (1, .int l1), (2, .int l2)] [] s (0, 0) (zRv E mX10_take q) := by
  intro n
  induction n with
  | zero => intro l0 l1 l2 s q h; cases h
  | succ n ih =>
    intro l0 l1 l2 s q h
    unfold fX10_take_2 at h
    refine z_iload_n (pc := 2) 2 rfl dX10_take_2 rfl ?_
    refine z_iload_n (pc := 3) 1 rfl dX10_take_3 rfl ?_
    refine z_icmp_ge (pc := 4) (tgt := 25) dX10_take_4 (by decide) (fun hc => ?_) (fun hc => ?_)
    · replace h := ifp hc h
      refine z_aload_n (pc := 25) 0 rfl dX10_take_25 rfl ?_
      refine z_iload_n (pc := 26) 1 rfl dX10_take_26 rfl ?_
      obtain ⟨a2, s1, e3, h⟩ := jI h
      refine y_putI (pc := 27) flRX10_111 dX10_take_27 rfl (Or.inl rfl) a2 e3 ?_
      refine z_aload_n (pc := 30) 0 rfl dX10_take_30 rfl ?_
      refine z_iconst (pc := 31) (v := 0) dX10_take_31 (by decide) ?_
      obtain ⟨a5, s4, e6, h⟩ := jI h
      refine y_putI (pc := 32) flRX10_99 dX10_take_32 rfl (Or.inl rfl) a5 e6 ?_
      refine z_aload_n (pc := 35) 0 rfl dX10_take_35 rfl ?_
      refine z_sipush (pc := 36) (v := 150) dX10_take_36 (by decide) ?_
      obtain ⟨a8, q7, e9, h⟩ := iC h
      refine y_V (pc := 39) (M2 := mX10_beginRead) (As := [.int 150]) (okX10_beginRead e9) mvX10_beginRead mlRX10_201 dX10_take_39 ⟨by decide, by decide⟩ rfl rfl rfl zrest0 a8 ?_
      exact y_ret (pc := 42) dX10_take_42 rfl h
    · replace h := ifn hc h
      refine z_aload_n (pc := 7) 0 rfl dX10_take_7 rfl ?_
      obtain ⟨a11, x10, e12, h⟩ := iR h
      refine y_getR (pc := 8) flRX10_13 dX10_take_8 rfl a11 e12 ?_
      refine z_iload_n (pc := 11) 2 rfl dX10_take_11 rfl ?_
      refine z_aload_n (pc := 12) 0 rfl dX10_take_12 rfl ?_
      obtain ⟨a14, x13, e15, h⟩ := iR h
      refine y_getR (pc := 13) flRX10_9 dX10_take_13 rfl a14 e15 ?_
      refine z_iload_n (pc := 16) 2 rfl dX10_take_16 rfl ?_
      obtain ⟨a17, x16, e18, h⟩ := iA h
      refine y_iald (pc := 17) dX10_take_17 a17 e18 ?_
      obtain ⟨a20, s19, e21, h⟩ := kI h
      refine y_iast (pc := 18) dX10_take_18 a20 e21 ?_
      refine z_iinc (pc := 19) (v := (l2 + 1)) (ls' := [(2, .int (l2 + 1)), (0, .ref l0), (1, .int l1)]) 2 rfl rfl dX10_take_19 (by decide) (fun _ => rfl) ?_
      refine z_goto (pc := 22) (tgt := 2) dX10_take_22 (by decide) ?_
      exact z_sub [1, 2, 0] rfl (ih h)
def fX10_take (l0 : Nat) (l1 : Int32) (s : zS) : Option zS :=
  fX10_take_2  zfu l0 l1 0 s
set_option maxRecDepth 100000 in
set_option maxHeartbeats 4000000 in
theorem okX10_take {E : zE} {l0 : Nat} {l1 : Int32} {s : zS} {t : zS} (h : fX10_take l0 l1 s = some t) : Cv E mX10_take [.ref l0, .int l1] s t := by
  refine Ct.of (ls := [(0, .ref l0), (1, .int l1)]) (by decide) rfl (Nat.le_of_ble_eq_true rfl) ?_
  show Z E mX10_take 0 [(0, .ref l0), (1, .int l1)] [] s (0, 0) (zRv E mX10_take t)
  unfold fX10_take at h
  refine z_iconst (pc := 0) (v := 0) dX10_take_0 (by decide) ?_
  refine z_istore_n (pc := 1) (ls' := [(2, .int 0), (0, .ref l0), (1, .int l1)]) dX10_take_1 rfl (by decide) (fun _ => rfl) ?_
  exact z_sub [1, 2, 0] rfl (bX10_take_2  _ h)
def fX10_formula_17  (l0 : Nat) (s : zS) : Option (Int32 × zS) :=
  bnd (cl s 10 l0 (fX10_fail l0  s)) fun q4 =>
  some (q4.1, q4.2)
set_option maxRecDepth 100000 in
set_option maxHeartbeats 4000000 in
theorem bX10_formula_17 {E : zE}   {l0 : Nat} {s : zS} {q : Int32 × zS} (h : fX10_formula_17  l0 s = some q) : Z E mX10_formula 17 [(0, .ref l0)] [] s (0, 0) (zRi E mX10_formula q.1 q.2) := by
  unfold fX10_formula_17 at h
  refine z_aload_n (pc := 17) 0 rfl dX10_formula_17 rfl ?_
  obtain ⟨a5, q4, e6, h⟩ := iC h
  refine y_Vi (pc := 18) (M2 := mX10_fail) (As := []) (okX10_fail e6) mvX10_fail mlRX10_157 dX10_formula_18 ⟨by decide, by decide⟩ rfl rfl rfl zrest0 a5 ?_
  exact y_iret (pc := 21) dX10_formula_21 rfl h
def fX10_formula_280  (l0 : Nat) (s : zS) : Option (Int32 × zS) :=
  bnd (qI s 10 l0 10) fun x37 =>
  some (x37, s)
set_option maxRecDepth 100000 in
set_option maxHeartbeats 4000000 in
theorem bX10_formula_280 {E : zE}   {l0 : Nat} {s : zS} {q : Int32 × zS} (h : fX10_formula_280  l0 s = some q) : Z E mX10_formula 280 [(0, .ref l0)] [] s (0, 0) (zRi E mX10_formula q.1 q.2) := by
  unfold fX10_formula_280 at h
  refine z_aload_n (pc := 280) 0 rfl dX10_formula_280 rfl ?_
  obtain ⟨a38, x37, e39, h⟩ := iI h
  refine y_getI (pc := 281) flRX10_198 dX10_formula_281 rfl a38 e39 ?_
  exact y_iret (pc := 284) dX10_formula_284 rfl h
def fX10_formula_237  (n : Nat) : Nat → Int32 → zS → Option (Int32 × zS) := match n with
  | 0 => fun _ _ _ => none
  | n + 1 => fun l0 l4 s =>
    bnd (qI s 10 l0 27) fun x49 =>
    if x49 ≤ l4 then
      bnd (wI s 10 l0 20 0) fun s52 =>
      bnd (wZ s52 10 l0 34 0) fun s55 =>
      bnd (cl s55 10 l0 (fX10_number0 l0  s55)) fun q58 =>
      fX10_formula_280  l0 q58
    else
      bnd (qR s 10 l0 14) fun x61 =>
      bnd (qR s 10 l0 24) fun x64 =>
      bnd (qA s 12 x64 l4) fun x67 =>
      bnd (uI s x61 l4 x67) fun s70 =>
      (fX10_formula_237  n) l0 (l4 + 1) s70
set_option maxRecDepth 100000 in
set_option maxHeartbeats 4000000 in
theorem bX10_formula_237 {E : zE}  : ∀ (n : Nat) {l0 : Nat} {l4 : Int32} {s : zS} {q : Int32 × zS}, fX10_formula_237  n l0 l4 s = some q → Z E mX10_formula 237 [(0, .ref l0), (4, .int l4)] [] s (0, 0) (zRi E mX10_formula q.1 q.2) := by
  intro n
  induction n with
  | zero => intro l0 l4 s q h; cases h
  | succ n ih =>
    intro l0 l4 s q h
    unfold fX10_formula_237 at h
    refine z_iload (pc := 237) 1 rfl dX10_formula_237 ?_
    refine z_aload_n (pc := 239) 0 rfl dX10_formula_239 rfl ?_
    obtain ⟨a50, x49, e51, h⟩ := iI h
    refine y_getI (pc := 240) flRX10_142 dX10_formula_240 rfl a50 e51 ?_
    refine z_icmp_ge (pc := 243) (tgt := 266) dX10_formula_243 (by decide) (fun hc => ?_) (fun hc => ?_)
    · replace h := ifp hc h
      refine z_aload_n (pc := 266) 0 rfl dX10_formula_266 rfl ?_
      refine z_iconst (pc := 267) (v := 0) dX10_formula_267 (by decide) ?_
      obtain ⟨a53, s52, e54, h⟩ := jI h
      refine y_putI (pc := 268) flRX10_188 dX10_formula_268 rfl (Or.inl rfl) a53 e54 ?_
      refine z_aload_n (pc := 271) 0 rfl dX10_formula_271 rfl ?_
      refine z_iconst (pc := 272) (v := 0) dX10_formula_272 (by decide) ?_
      obtain ⟨a56, s55, e57, h⟩ := jZ h
      refine y_putZ (pc := 273) flRX10_191 dX10_formula_273 rfl (Or.inl rfl) a56 e57 ?_
      refine z_aload_n (pc := 276) 0 rfl dX10_formula_276 rfl ?_
      obtain ⟨a59, q58, e60, h⟩ := iC h
      refine y_V (pc := 277) (M2 := mX10_number0) (As := []) (okX10_number0 e60) mvX10_number0 mlRX10_195 dX10_formula_277 ⟨by decide, by decide⟩ rfl rfl rfl zrest0 a59 ?_
      exact z_sub [0] rfl (bX10_formula_280  h)
    · replace h := ifn hc h
      refine z_aload_n (pc := 246) 0 rfl dX10_formula_246 rfl ?_
      obtain ⟨a62, x61, e63, h⟩ := iR h
      refine y_getR (pc := 247) flRX10_26 dX10_formula_247 rfl a62 e63 ?_
      refine z_iload (pc := 250) 1 rfl dX10_formula_250 ?_
      refine z_aload_n (pc := 252) 0 rfl dX10_formula_252 rfl ?_
      obtain ⟨a65, x64, e66, h⟩ := iR h
      refine y_getR (pc := 253) flRX10_48 dX10_formula_253 rfl a65 e66 ?_
      refine z_iload (pc := 256) 1 rfl dX10_formula_256 ?_
      obtain ⟨a68, x67, e69, h⟩ := iA h
      refine y_iald (pc := 258) dX10_formula_258 a68 e69 ?_
      obtain ⟨a71, s70, e72, h⟩ := kI h
      refine y_iast (pc := 259) dX10_formula_259 a71 e72 ?_
      refine z_iinc (pc := 260) (v := (l4 + 1)) (ls' := [(4, .int (l4 + 1)), (0, .ref l0)]) 1 rfl rfl dX10_formula_260 (by decide) (fun _ => rfl) ?_
      refine z_goto (pc := 263) (tgt := 237) dX10_formula_263 (by decide) ?_
      exact z_sub [1, 0] rfl (ih h)
def fX10_formula_191  (n : Nat) : Nat → Int32 → zS → Option (Int32 × zS) := match n with
  | 0 => fun _ _ _ => none
  | n + 1 => fun l0 l4 s =>
    bnd (qI s 10 l0 26) fun x46 =>
    if x46 < l4 then
      fX10_formula_237  zfu l0 0 s
    else
      bnd (qR s 10 l0 12) fun x49 =>
      bnd (qR s 10 l0 22) fun x52 =>
      bnd (qA s 12 x52 l4) fun x55 =>
      bnd (uI s x49 l4 x55) fun s58 =>
      bnd (qR s58 10 l0 13) fun x61 =>
      bnd (qR s58 10 l0 23) fun x64 =>
      bnd (qA s58 12 x64 l4) fun x67 =>
      bnd (uI s58 x61 l4 x67) fun s70 =>
      (fX10_formula_191  n) l0 (l4 + 1) s70
set_option maxRecDepth 100000 in
set_option maxHeartbeats 4000000 in
theorem bX10_formula_191 {E : zE}  : ∀ (n : Nat) {l0 : Nat} {l4 : Int32} {s : zS} {q : Int32 × zS}, fX10_formula_191  n l0 l4 s = some q → Z E mX10_formula 191 [(0, .ref l0), (4, .int l4)] [] s (0, 0) (zRi E mX10_formula q.1 q.2) := by
  intro n
  induction n with
  | zero => intro l0 l4 s q h; cases h
  | succ n ih =>
    intro l0 l4 s q h
    unfold fX10_formula_191 at h
    refine z_iload (pc := 191) 1 rfl dX10_formula_191 ?_
    refine z_aload_n (pc := 193) 0 rfl dX10_formula_193 rfl ?_
    obtain ⟨a47, x46, e48, h⟩ := iI h
    refine y_getI (pc := 194) flRX10_139 dX10_formula_194 rfl a47 e48 ?_
    refine z_icmp_gt (pc := 197) (tgt := 234) dX10_formula_197 (by decide) (fun hc => ?_) (fun hc => ?_)
    · replace h := ifp hc h
      refine z_iconst (pc := 234) (v := 0) dX10_formula_234 (by decide) ?_
      refine z_istore (pc := 235) (ls' := [(4, .int 0), (0, .ref l0)]) dX10_formula_235 (by decide) (fun _ => rfl) ?_
      exact z_sub [1, 0] rfl (bX10_formula_237  _ h)
    · replace h := ifn hc h
      refine z_aload_n (pc := 200) 0 rfl dX10_formula_200 rfl ?_
      obtain ⟨a50, x49, e51, h⟩ := iR h
      refine y_getR (pc := 201) flRX10_20 dX10_formula_201 rfl a50 e51 ?_
      refine z_iload (pc := 204) 1 rfl dX10_formula_204 ?_
      refine z_aload_n (pc := 206) 0 rfl dX10_formula_206 rfl ?_
      obtain ⟨a53, x52, e54, h⟩ := iR h
      refine y_getR (pc := 207) flRX10_42 dX10_formula_207 rfl a53 e54 ?_
      refine z_iload (pc := 210) 1 rfl dX10_formula_210 ?_
      obtain ⟨a56, x55, e57, h⟩ := iA h
      refine y_iald (pc := 212) dX10_formula_212 a56 e57 ?_
      obtain ⟨a59, s58, e60, h⟩ := kI h
      refine y_iast (pc := 213) dX10_formula_213 a59 e60 ?_
      refine z_aload_n (pc := 214) 0 rfl dX10_formula_214 rfl ?_
      obtain ⟨a62, x61, e63, h⟩ := iR h
      refine y_getR (pc := 215) flRX10_23 dX10_formula_215 rfl a62 e63 ?_
      refine z_iload (pc := 218) 1 rfl dX10_formula_218 ?_
      refine z_aload_n (pc := 220) 0 rfl dX10_formula_220 rfl ?_
      obtain ⟨a65, x64, e66, h⟩ := iR h
      refine y_getR (pc := 221) flRX10_45 dX10_formula_221 rfl a65 e66 ?_
      refine z_iload (pc := 224) 1 rfl dX10_formula_224 ?_
      obtain ⟨a68, x67, e69, h⟩ := iA h
      refine y_iald (pc := 226) dX10_formula_226 a68 e69 ?_
      obtain ⟨a71, s70, e72, h⟩ := kI h
      refine y_iast (pc := 227) dX10_formula_227 a71 e72 ?_
      refine z_iinc (pc := 228) (v := (l4 + 1)) (ls' := [(4, .int (l4 + 1)), (0, .ref l0)]) 1 rfl rfl dX10_formula_228 (by decide) (fun _ => rfl) ?_
      refine z_goto (pc := 231) (tgt := 191) dX10_formula_231 (by decide) ?_
      exact z_sub [1, 0] rfl (ih h)
def fX10_formula_168  (l0 : Nat) (l2 : Int32) (s : zS) : Option (Int32 × zS) :=
  bnd (cl s 10 l0 (fX10_settled l0  s)) fun q34 =>
  if q34.1 = 0 then
    fX10_formula_280  l0 q34.2
  else
    bnd (wI q34.2 10 l0 21 l2) fun s37 =>
    bnd (qI s37 10 l0 26) fun x40 =>
    bnd (wI s37 10 l0 19 x40) fun s43 =>
    fX10_formula_191  zfu l0 1 s43
set_option maxRecDepth 100000 in
set_option maxHeartbeats 4000000 in
theorem bX10_formula_168 {E : zE}   {l0 : Nat} {l2 : Int32} {s : zS} {q : Int32 × zS} (h : fX10_formula_168  l0 l2 s = some q) : Z E mX10_formula 168 [(0, .ref l0), (2, .int l2)] [] s (0, 0) (zRi E mX10_formula q.1 q.2) := by
  unfold fX10_formula_168 at h
  refine z_aload_n (pc := 168) 0 rfl dX10_formula_168 rfl ?_
  obtain ⟨a35, q34, e36, h⟩ := iC h
  refine y_Vi (pc := 169) (M2 := mX10_settled) (As := []) (okX10_settled e36) mvX10_settled mlRX10_179 dX10_formula_169 ⟨by decide, by decide⟩ rfl rfl rfl zrest0 a35 ?_
  refine z_if_eq (pc := 172) (tgt := 280) dX10_formula_172 (by decide) (fun hc => ?_) (fun hc => ?_)
  · replace h := ifp hc h
    exact z_sub [0] rfl (bX10_formula_280  h)
  · replace h := ifn hc h
    refine z_aload_n (pc := 175) 0 rfl dX10_formula_175 rfl ?_
    refine z_iload_n (pc := 176) 1 rfl dX10_formula_176 rfl ?_
    obtain ⟨a38, s37, e39, h⟩ := jI h
    refine y_putI (pc := 177) flRX10_182 dX10_formula_177 rfl (Or.inl rfl) a38 e39 ?_
    refine z_aload_n (pc := 180) 0 rfl dX10_formula_180 rfl ?_
    refine z_aload_n (pc := 181) 0 rfl dX10_formula_181 rfl ?_
    obtain ⟨a41, x40, e42, h⟩ := iI h
    refine y_getI (pc := 182) flRX10_139 dX10_formula_182 rfl a41 e42 ?_
    obtain ⟨a44, s43, e45, h⟩ := jI h
    refine y_putI (pc := 185) flRX10_185 dX10_formula_185 rfl (Or.inl rfl) a44 e45 ?_
    refine z_iconst (pc := 188) (v := 1) dX10_formula_188 (by decide) ?_
    refine z_istore (pc := 189) (ls' := [(4, .int 1), (0, .ref l0), (2, .int l2)]) dX10_formula_189 (by decide) (fun _ => rfl) ?_
    exact z_sub [1, 0] rfl (bX10_formula_191  _ h)
def fX10_formula_145  (l0 : Nat) (l2 : Int32) (s : zS) : Option (Int32 × zS) :=
  bnd (qI s 10 l0 8) fun x31 =>
  if x31 = 0 then
    bnd (cl s 10 l0 (fX10_next l0  s)) fun q34 =>
    if q34.1 = 0 then
      fX10_formula_168  l0 l2 q34.2
    else
      bnd (qI q34.2 10 l0 6) fun x37 =>
      bnd (cl q34.2 10 l0 (fX10_wrong l0 1 x37 q34.2)) fun q40 =>
      fX10_formula_168  l0 l2 q40
  else
    fX10_formula_168  l0 l2 s
set_option maxRecDepth 100000 in
set_option maxHeartbeats 4000000 in
theorem bX10_formula_145 {E : zE}   {l0 : Nat} {l2 : Int32} {s : zS} {q : Int32 × zS} (h : fX10_formula_145  l0 l2 s = some q) : Z E mX10_formula 145 [(0, .ref l0), (2, .int l2)] [] s (0, 0) (zRi E mX10_formula q.1 q.2) := by
  unfold fX10_formula_145 at h
  refine z_aload_n (pc := 145) 0 rfl dX10_formula_145 rfl ?_
  obtain ⟨a32, x31, e33, h⟩ := iI h
  refine y_getI (pc := 146) flRX10_102 dX10_formula_146 rfl a32 e33 ?_
  refine z_if_ne (pc := 149) (tgt := 168) dX10_formula_149 (by decide) (fun hc => ?_) (fun hc => ?_)
  · replace h := ifn hc h
    exact z_sub [0, 1] rfl (bX10_formula_168  h)
  · replace h := ifp hc h
    refine z_aload_n (pc := 152) 0 rfl dX10_formula_152 rfl ?_
    obtain ⟨a35, q34, e36, h⟩ := iC h
    refine y_Vi (pc := 153) (M2 := mX10_next) (As := []) (okX10_next e36) mvX10_next mlRX10_124 dX10_formula_153 ⟨by decide, by decide⟩ rfl rfl rfl zrest0 a35 ?_
    refine z_if_eq (pc := 156) (tgt := 168) dX10_formula_156 (by decide) (fun hc => ?_) (fun hc => ?_)
    · replace h := ifp hc h
      exact z_sub [0, 1] rfl (bX10_formula_168  h)
    · replace h := ifn hc h
      refine z_aload_n (pc := 159) 0 rfl dX10_formula_159 rfl ?_
      refine z_iconst (pc := 160) (v := 1) dX10_formula_160 (by decide) ?_
      refine z_aload_n (pc := 161) 0 rfl dX10_formula_161 rfl ?_
      obtain ⟨a38, x37, e39, h⟩ := iI h
      refine y_getI (pc := 162) flRX10_118 dX10_formula_162 rfl a38 e39 ?_
      obtain ⟨a41, q40, e42, h⟩ := iC h
      refine y_V (pc := 165) (M2 := mX10_wrong) (As := [.int 1, .int x37]) (okX10_wrong e42) mvX10_wrong mlRX10_128 dX10_formula_165 ⟨by decide, by decide⟩ rfl rfl rfl zrest0 a41 ?_
      exact z_sub [0, 1] rfl (bX10_formula_168  h)
def fX10_formula_117  (n : Nat) : Nat → Int32 → Int32 → Int32 → zS → Option (Int32 × zS) := match n with
  | 0 => fun _ _ _ _ _ => none
  | n + 1 => fun l0 l2 l3 l4 s =>
    if l3 ≤ l4 then
      fX10_formula_145  l0 l2 s
    else
      bnd (qI s 10 l0 8) fun x31 =>
      if x31 = 0 then
        bnd (cl s 10 l0 (fX10_beginRow l0  s)) fun q34 =>
        bnd (cl q34 10 l0 (fX10_readRowOf l0 0 q34)) fun q37 =>
        (fX10_formula_117  n) l0 l2 l3 (l4 + 1) q37
      else
        fX10_formula_145  l0 l2 s
set_option maxRecDepth 100000 in
set_option maxHeartbeats 4000000 in
theorem bX10_formula_117 {E : zE}  : ∀ (n : Nat) {l0 : Nat} {l2 : Int32} {l3 : Int32} {l4 : Int32} {s : zS} {q : Int32 × zS}, fX10_formula_117  n l0 l2 l3 l4 s = some q → Z E mX10_formula 117 [(0, .ref l0), (2, .int l2), (3, .int l3), (4, .int l4)] [] s (0, 0) (zRi E mX10_formula q.1 q.2) := by
  intro n
  induction n with
  | zero => intro l0 l2 l3 l4 s q h; cases h
  | succ n ih =>
    intro l0 l2 l3 l4 s q h
    unfold fX10_formula_117 at h
    refine z_iload (pc := 117) 3 rfl dX10_formula_117 ?_
    refine z_iload_n (pc := 119) 2 rfl dX10_formula_119 rfl ?_
    refine z_icmp_ge (pc := 120) (tgt := 145) dX10_formula_120 (by decide) (fun hc => ?_) (fun hc => ?_)
    · replace h := ifp hc h
      exact z_sub [0, 1] rfl (bX10_formula_145  h)
    · replace h := ifn hc h
      refine z_aload_n (pc := 123) 0 rfl dX10_formula_123 rfl ?_
      obtain ⟨a32, x31, e33, h⟩ := iI h
      refine y_getI (pc := 124) flRX10_102 dX10_formula_124 rfl a32 e33 ?_
      refine z_if_ne (pc := 127) (tgt := 145) dX10_formula_127 (by decide) (fun hc => ?_) (fun hc => ?_)
      · replace h := ifn hc h
        exact z_sub [0, 1] rfl (bX10_formula_145  h)
      · replace h := ifp hc h
        refine z_aload_n (pc := 130) 0 rfl dX10_formula_130 rfl ?_
        obtain ⟨a35, q34, e36, h⟩ := iC h
        refine y_V (pc := 131) (M2 := mX10_beginRow) (As := []) (okX10_beginRow e36) mvX10_beginRow mlRX10_172 dX10_formula_131 ⟨by decide, by decide⟩ rfl rfl rfl zrest0 a35 ?_
        refine z_aload_n (pc := 134) 0 rfl dX10_formula_134 rfl ?_
        refine z_iconst (pc := 135) (v := 0) dX10_formula_135 (by decide) ?_
        obtain ⟨a38, q37, e39, h⟩ := iC h
        refine y_V (pc := 136) (M2 := mX10_readRowOf) (As := [.int 0]) (okX10_readRowOf e39) mvX10_readRowOf mlRX10_175 dX10_formula_136 ⟨by decide, by decide⟩ rfl rfl rfl zrest0 a38 ?_
        refine z_iinc (pc := 139) (v := (l4 + 1)) (ls' := [(4, .int (l4 + 1)), (0, .ref l0), (2, .int l2), (3, .int l3)]) 3 rfl rfl dX10_formula_139 (by decide) (fun _ => rfl) ?_
        refine z_goto (pc := 142) (tgt := 117) dX10_formula_142 (by decide) ?_
        exact z_sub [1, 2, 3, 0] rfl (ih h)
def fX10_formula_93  (l0 : Nat) (s : zS) : Option (Int32 × zS) :=
  bnd (cl s 10 l0 (fX10_within l0 150 s)) fun q22 =>
  bnd (cl q22.2 10 l0 (fX10_within l0 300 q22.2)) fun q25 =>
  bnd (wI q25.2 10 l0 30 q22.1) fun s28 =>
  fX10_formula_117  zfu l0 q22.1 q25.1 0 s28
set_option maxRecDepth 100000 in
set_option maxHeartbeats 4000000 in
theorem bX10_formula_93 {E : zE}   {l0 : Nat} {s : zS} {q : Int32 × zS} (h : fX10_formula_93  l0 s = some q) : Z E mX10_formula 93 [(0, .ref l0)] [] s (0, 0) (zRi E mX10_formula q.1 q.2) := by
  unfold fX10_formula_93 at h
  refine z_aload_n (pc := 93) 0 rfl dX10_formula_93 rfl ?_
  refine z_sipush (pc := 94) (v := 150) dX10_formula_94 (by decide) ?_
  obtain ⟨a23, q22, e24, h⟩ := iC h
  refine y_Vi (pc := 97) (M2 := mX10_within) (As := [.int 150]) (okX10_within e24) mvX10_within mlRX10_168 dX10_formula_97 ⟨by decide, by decide⟩ rfl rfl rfl zrest0 a23 ?_
  refine z_istore_n (pc := 100) (ls' := [(2, .int q22.1), (0, .ref l0)]) dX10_formula_100 rfl (by decide) (fun _ => rfl) ?_
  refine z_aload_n (pc := 101) 1 rfl dX10_formula_101 rfl ?_
  refine z_sipush (pc := 102) (v := 300) dX10_formula_102 (by decide) ?_
  obtain ⟨a26, q25, e27, h⟩ := iC h
  refine y_Vi (pc := 105) (M2 := mX10_within) (As := [.int 300]) (okX10_within e27) mvX10_within mlRX10_168 dX10_formula_105 ⟨by decide, by decide⟩ rfl rfl rfl zrest0 a26 ?_
  refine z_istore_n (pc := 108) (ls' := [(3, .int q25.1), (2, .int q22.1), (0, .ref l0)]) dX10_formula_108 rfl (by decide) (fun _ => rfl) ?_
  refine z_aload_n (pc := 109) 2 rfl dX10_formula_109 rfl ?_
  refine z_iload_n (pc := 110) 1 rfl dX10_formula_110 rfl ?_
  obtain ⟨a29, s28, e30, h⟩ := jI h
  refine y_putI (pc := 111) flRX10_148 dX10_formula_111 rfl (Or.inl rfl) a29 e30 ?_
  refine z_iconst (pc := 114) (v := 0) dX10_formula_114 (by decide) ?_
  refine z_istore (pc := 115) (ls' := [(4, .int 0), (3, .int q25.1), (2, .int q22.1), (0, .ref l0)]) dX10_formula_115 (by decide) (fun _ => rfl) ?_
  exact z_sub [3, 2, 1, 0] rfl (bX10_formula_117  _ h)
def fX10_formula_59  (l0 : Nat) (s : zS) : Option (Int32 × zS) :=
  bnd (cl s 10 l0 (fX10_need l0  s)) fun q16 =>
  bnd (qI q16 10 l0 8) fun x19 =>
  if x19 = 0 then
    bnd (cl q16 10 l0 (fX10_isWord l0 3 99 110 102 q16)) fun q22 =>
    if q22.1 = 0 then
      bnd (qI q22.2 10 l0 6) fun x25 =>
      bnd (cl q22.2 10 l0 (fX10_wrong l0 1 x25 q22.2)) fun q28 =>
      fX10_formula_93  l0 q28
    else
      fX10_formula_93  l0 q22.2
  else
    fX10_formula_93  l0 q16
set_option maxRecDepth 100000 in
set_option maxHeartbeats 4000000 in
theorem bX10_formula_59 {E : zE}   {l0 : Nat} {s : zS} {q : Int32 × zS} (h : fX10_formula_59  l0 s = some q) : Z E mX10_formula 59 [(0, .ref l0)] [] s (0, 0) (zRi E mX10_formula q.1 q.2) := by
  unfold fX10_formula_59 at h
  refine z_aload_n (pc := 59) 0 rfl dX10_formula_59 rfl ?_
  obtain ⟨a17, q16, e18, h⟩ := iC h
  refine y_V (pc := 60) (M2 := mX10_need) (As := []) (okX10_need e18) mvX10_need mlRX10_132 dX10_formula_60 ⟨by decide, by decide⟩ rfl rfl rfl zrest0 a17 ?_
  refine z_aload_n (pc := 63) 0 rfl dX10_formula_63 rfl ?_
  obtain ⟨a20, x19, e21, h⟩ := iI h
  refine y_getI (pc := 64) flRX10_102 dX10_formula_64 rfl a20 e21 ?_
  refine z_if_ne (pc := 67) (tgt := 93) dX10_formula_67 (by decide) (fun hc => ?_) (fun hc => ?_)
  · replace h := ifn hc h
    exact z_sub [0] rfl (bX10_formula_93  h)
  · replace h := ifp hc h
    refine z_aload_n (pc := 70) 0 rfl dX10_formula_70 rfl ?_
    refine z_iconst (pc := 71) (v := 3) dX10_formula_71 (by decide) ?_
    refine z_bipush (pc := 72) (v := 99) dX10_formula_72 (by decide) ?_
    refine z_bipush (pc := 74) (v := 110) dX10_formula_74 (by decide) ?_
    refine z_bipush (pc := 76) (v := 102) dX10_formula_76 (by decide) ?_
    obtain ⟨a23, q22, e24, h⟩ := iC h
    refine y_Vi (pc := 78) (M2 := mX10_isWord) (As := [.int 3, .int 99, .int 110, .int 102]) (okX10_isWord e24) mvX10_isWord mlRX10_164 dX10_formula_78 ⟨by decide, by decide⟩ rfl rfl rfl zrest0 a23 ?_
    refine z_if_ne (pc := 81) (tgt := 93) dX10_formula_81 (by decide) (fun hc => ?_) (fun hc => ?_)
    · replace h := ifn hc h
      exact z_sub [0] rfl (bX10_formula_93  h)
    · replace h := ifp hc h
      refine z_aload_n (pc := 84) 0 rfl dX10_formula_84 rfl ?_
      refine z_iconst (pc := 85) (v := 1) dX10_formula_85 (by decide) ?_
      refine z_aload_n (pc := 86) 0 rfl dX10_formula_86 rfl ?_
      obtain ⟨a26, x25, e27, h⟩ := iI h
      refine y_getI (pc := 87) flRX10_118 dX10_formula_87 rfl a26 e27 ?_
      obtain ⟨a29, q28, e30, h⟩ := iC h
      refine y_V (pc := 90) (M2 := mX10_wrong) (As := [.int 1, .int x25]) (okX10_wrong e30) mvX10_wrong mlRX10_128 dX10_formula_90 ⟨by decide, by decide⟩ rfl rfl rfl zrest0 a29 ?_
      exact z_sub [0] rfl (bX10_formula_93  h)
def fX10_formula (l0 : Nat) (l1 : Int32) (s : zS) : Option (Int32 × zS) :=
  bnd (wI s 10 l0 0 0) fun s1 =>
  if l1 < 0 then
    fX10_formula_17  l0 s1
  else
    bnd (qI s1 10 l0 2) fun x4 =>
    if l1 ≤ x4 then
      bnd (cl s1 10 l0 (fX10_take l0 l1 s1)) fun q7 =>
      bnd (cl q7 10 l0 (fX10_need l0  q7)) fun q10 =>
      bnd (qI q10 10 l0 8) fun x13 =>
      if x13 = 0 then
        bnd (cl q10 10 l0 (fX10_isWord l0 1 112 0 0 q10)) fun q16 =>
        if q16.1 = 0 then
          bnd (qI q16.2 10 l0 6) fun x19 =>
          bnd (cl q16.2 10 l0 (fX10_wrong l0 1 x19 q16.2)) fun q22 =>
          fX10_formula_59  l0 q22
        else
          fX10_formula_59  l0 q16.2
      else
        fX10_formula_59  l0 q10
    else
      fX10_formula_17  l0 s1
set_option maxRecDepth 100000 in
set_option maxHeartbeats 4000000 in
theorem okX10_formula {E : zE} {l0 : Nat} {l1 : Int32} {s : zS} {q : Int32 × zS} (h : fX10_formula l0 l1 s = some q) : Ci E mX10_formula [.ref l0, .int l1] s q.1 q.2 := by
  refine Ct.of (ls := [(0, .ref l0), (1, .int l1)]) (by decide) rfl (Nat.le_of_ble_eq_true rfl) ?_
  show Z E mX10_formula 0 [(0, .ref l0), (1, .int l1)] [] s (0, 0) (zRi E mX10_formula q.1 q.2)
  unfold fX10_formula at h
  refine z_aload_n (pc := 0) 0 rfl dX10_formula_0 rfl ?_
  refine z_iconst (pc := 1) (v := 0) dX10_formula_1 (by decide) ?_
  obtain ⟨a2, s1, e3, h⟩ := jI h
  refine y_putI (pc := 2) flRX10_96 dX10_formula_2 rfl (Or.inl rfl) a2 e3 ?_
  refine z_iload_n (pc := 5) 1 rfl dX10_formula_5 rfl ?_
  refine z_if_lt (pc := 6) (tgt := 17) dX10_formula_6 (by decide) (fun hc => ?_) (fun hc => ?_)
  · replace h := ifp hc h
    exact z_sub [0] rfl (bX10_formula_17  h)
  · replace h := ifn hc h
    refine z_iload_n (pc := 9) 1 rfl dX10_formula_9 rfl ?_
    refine z_aload_n (pc := 10) 0 rfl dX10_formula_10 rfl ?_
    obtain ⟨a5, x4, e6, h⟩ := iI h
    refine y_getI (pc := 11) flRX10_99 dX10_formula_11 rfl a5 e6 ?_
    refine z_icmp_le (pc := 14) (tgt := 22) dX10_formula_14 (by decide) (fun hc => ?_) (fun hc => ?_)
    · replace h := ifp hc h
      refine z_aload_n (pc := 22) 0 rfl dX10_formula_22 rfl ?_
      refine z_iload_n (pc := 23) 1 rfl dX10_formula_23 rfl ?_
      obtain ⟨a8, q7, e9, h⟩ := iC h
      refine y_V (pc := 24) (M2 := mX10_take) (As := [.int l1]) (okX10_take e9) mvX10_take mlRX10_160 dX10_formula_24 ⟨by decide, by decide⟩ rfl rfl rfl zrest0 a8 ?_
      refine z_aload_n (pc := 27) 0 rfl dX10_formula_27 rfl ?_
      obtain ⟨a11, q10, e12, h⟩ := iC h
      refine y_V (pc := 28) (M2 := mX10_need) (As := []) (okX10_need e12) mvX10_need mlRX10_132 dX10_formula_28 ⟨by decide, by decide⟩ rfl rfl rfl zrest0 a11 ?_
      refine z_aload_n (pc := 31) 0 rfl dX10_formula_31 rfl ?_
      obtain ⟨a14, x13, e15, h⟩ := iI h
      refine y_getI (pc := 32) flRX10_102 dX10_formula_32 rfl a14 e15 ?_
      refine z_if_ne (pc := 35) (tgt := 59) dX10_formula_35 (by decide) (fun hc => ?_) (fun hc => ?_)
      · replace h := ifn hc h
        exact z_sub [0] rfl (bX10_formula_59  h)
      · replace h := ifp hc h
        refine z_aload_n (pc := 38) 0 rfl dX10_formula_38 rfl ?_
        refine z_iconst (pc := 39) (v := 1) dX10_formula_39 (by decide) ?_
        refine z_bipush (pc := 40) (v := 112) dX10_formula_40 (by decide) ?_
        refine z_iconst (pc := 42) (v := 0) dX10_formula_42 (by decide) ?_
        refine z_iconst (pc := 43) (v := 0) dX10_formula_43 (by decide) ?_
        obtain ⟨a17, q16, e18, h⟩ := iC h
        refine y_Vi (pc := 44) (M2 := mX10_isWord) (As := [.int 1, .int 112, .int 0, .int 0]) (okX10_isWord e18) mvX10_isWord mlRX10_164 dX10_formula_44 ⟨by decide, by decide⟩ rfl rfl rfl zrest0 a17 ?_
        refine z_if_ne (pc := 47) (tgt := 59) dX10_formula_47 (by decide) (fun hc => ?_) (fun hc => ?_)
        · replace h := ifn hc h
          exact z_sub [0] rfl (bX10_formula_59  h)
        · replace h := ifp hc h
          refine z_aload_n (pc := 50) 0 rfl dX10_formula_50 rfl ?_
          refine z_iconst (pc := 51) (v := 1) dX10_formula_51 (by decide) ?_
          refine z_aload_n (pc := 52) 0 rfl dX10_formula_52 rfl ?_
          obtain ⟨a20, x19, e21, h⟩ := iI h
          refine y_getI (pc := 53) flRX10_118 dX10_formula_53 rfl a20 e21 ?_
          obtain ⟨a23, q22, e24, h⟩ := iC h
          refine y_V (pc := 56) (M2 := mX10_wrong) (As := [.int 1, .int x19]) (okX10_wrong e24) mvX10_wrong mlRX10_128 dX10_formula_56 ⟨by decide, by decide⟩ rfl rfl rfl zrest0 a23 ?_
          exact z_sub [0] rfl (bX10_formula_59  h)
    · replace h := ifn hc h
      exact z_sub [0] rfl (bX10_formula_17  h)
