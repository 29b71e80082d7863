section
set_option maxHeartbeats 4000000 in
set_option maxRecDepth 20000 in
theorem c8_X11_init (l0 : Launch) {Ia Ja : aI1} {Ra : aR1} (hR : ∀ q ∈ layR, q.1 < 49 → Ra q.1 q.2.1 = some q.2.2) (hI0 : ∀ j, Ia 49 j = 0)  : CT l0 1 23 27348 mX11_init [kR (some 49)] Ia Ja Ra (nS_X10 [(16, 0)] ++ [(17, 0)]) (dV (fun I' J' R' S' => LY R' S' ∧ RX I' ∧ (∀ k, k < 49 → I' k = Ia k ∧ J' k = Ja k ∧ R' k = Ra k) ∧ S'.length = 73 ∧ I' 53 = (fun _ => 0) ∧ I' 49 10 = 0 ∧ I' 49 6 = 0 ∧ I' 49 33 = 0 ∧ I' 51 304 = 3 ∧ I' 51 305 = 4 ∧ I' 51 306 = 0 ∧ I' 51 309 = 0 ∧ (∀ j : Nat, j < 8 → I' 51 (256 + j) = 1) ∧ (∀ j : Nat, j < 16 → I' 51 (288 + j) = 0) ∧ I' 51 310 = 0 ∧ I' 49 11 = -1 ∧ WD I' ∧ (∀ s : Nat, s < 256 → I' 51 s = -1) ∧ I' 49 0 = 0 ∧ I' 49 1 = 0 ∧ I' 49 25 = -1 ∧ I' 49 39 = -1 ∧ I' 50 = (fun _ => 0) ∧ I' 51 307 = 0 ∧ I' 51 308 = 0)) := by
  refine ct_in pn_X11 (Nat.le_of_ble_eq_true rfl) (fun X hX hT hIn => ?_)
  have hX : aK l0 X cX11_init 2 RX11 none 1 23 27348 := hX
  change WW X 0 [some (kR (some 49)), none] [] Ia Ja Ra (nS_X10 [(16, 0)] ++ [(17, 0)]) 0 0
  refine ww_aload_n hX (pc := 0) dX11_init_0 rfl ?_
  refine ww_objInit hX (pc := 1) tb_1087 tb_27 tb_28 (by decide) (Nat.le_of_ble_eq_true rfl) dX11_init_1 ?_
  refine ww_aload_n hX (pc := 4) dX11_init_4 rfl ?_
  refine ww_bipush hX (pc := 5) (x := 7) dX11_init_5 (by decide) ?_
  refine ww_na_intz hX (pc := 7) (N := 7) (z := 50) rfl tb_103 rfl (by omega) (by omega) (by omega) dX11_init_7 ?_
  refine ww_putR hX (pc := 9) (fun _ => hIn rfl) gX11_7 (by decide) rfl dX11_init_9 ?_
  refine ww_aload_n hX (pc := 12) dX11_init_12 rfl ?_
  refine ww_sipush hX (pc := 13) (x := 5117) dX11_init_13 (by decide) ?_
  refine ww_na_intz hX (pc := 16) (N := 5117) (z := 51) rfl tb_103 rfl (by omega) (by omega) (by omega) dX11_init_16 ?_
  refine ww_putR hX (pc := 18) (fun _ => hIn rfl) gX11_20 (by decide) rfl dX11_init_18 ?_
  refine ww_aload_n hX (pc := 21) dX11_init_21 rfl ?_
  refine ww_sipush hX (pc := 22) (x := 10234) dX11_init_22 (by decide) ?_
  refine ww_na_intz hX (pc := 25) (N := 10234) (z := 52) rfl tb_103 rfl (by omega) (by omega) (by omega) dX11_init_25 ?_
  refine ww_putR hX (pc := 27) (fun _ => hIn rfl) gX11_23 (by decide) rfl dX11_init_27 ?_
  refine ww_aload_n hX (pc := 30) dX11_init_30 rfl ?_
  refine ww_iconst hX (pc := 31) (x := 2) dX11_init_31 rfl ?_
  refine ww_na_boolz hX (pc := 32) (N := 2) (z := 53) rfl tb_320 rfl (by omega) (by omega) (by omega) dX11_init_32 ?_
  refine ww_putR hX (pc := 34) (fun _ => hIn rfl) gX11_26 (by decide) rfl dX11_init_34 ?_
  refine ww_aload_n hX (pc := 37) dX11_init_37 rfl ?_
  refine ww_bipush hX (pc := 38) (x := 60) dX11_init_38 (by decide) ?_
  refine ww_na_bytez hX (pc := 40) (N := 60) (z := 54) rfl tb_681 rfl (by omega) (by omega) (by omega) dX11_init_40 ?_
  refine ww_dupR hX (pc := 42) dX11_init_42 ?_
  refine ww_iconst hX (pc := 43) (x := 0) dX11_init_43 rfl ?_
  refine ww_bipush hX (pc := 44) (x := 114) dX11_init_44 (by decide) ?_
  refine ww_bast hX (pc := 46) rfl (by decide) (by omega) (by omega) dX11_init_46 ?_
  refine ww_dupR hX (pc := 47) dX11_init_47 ?_
  refine ww_iconst hX (pc := 48) (x := 1) dX11_init_48 rfl ?_
  refine ww_bipush hX (pc := 49) (x := 101) dX11_init_49 (by decide) ?_
  refine ww_bast hX (pc := 51) rfl (by decide) (by omega) (by omega) dX11_init_51 ?_
  refine ww_dupR hX (pc := 52) dX11_init_52 ?_
  refine ww_iconst hX (pc := 53) (x := 2) dX11_init_53 rfl ?_
  refine ww_bipush hX (pc := 54) (x := 97) dX11_init_54 (by decide) ?_
  refine ww_bast hX (pc := 56) rfl (by decide) (by omega) (by omega) dX11_init_56 ?_
  refine ww_dupR hX (pc := 57) dX11_init_57 ?_
  refine ww_iconst hX (pc := 58) (x := 3) dX11_init_58 rfl ?_
  refine ww_bipush hX (pc := 59) (x := 100) dX11_init_59 (by decide) ?_
  refine ww_bast hX (pc := 61) rfl (by decide) (by omega) (by omega) dX11_init_61 ?_
  refine ww_dupR hX (pc := 62) dX11_init_62 ?_
  refine ww_iconst hX (pc := 63) (x := 4) dX11_init_63 rfl ?_
  refine ww_bipush hX (pc := 64) (x := 115) dX11_init_64 (by decide) ?_
  refine ww_bast hX (pc := 66) rfl (by decide) (by omega) (by omega) dX11_init_66 ?_
  refine ww_dupR hX (pc := 67) dX11_init_67 ?_
  refine ww_iconst hX (pc := 68) (x := 5) dX11_init_68 rfl ?_
  refine ww_bipush hX (pc := 69) (x := 32) dX11_init_69 (by decide) ?_
  refine ww_bast hX (pc := 71) rfl (by decide) (by omega) (by omega) dX11_init_71 ?_
  refine ww_dupR hX (pc := 72) dX11_init_72 ?_
  refine ww_bipush hX (pc := 73) (x := 6) dX11_init_73 (by decide) ?_
  refine ww_bipush hX (pc := 75) (x := 105) dX11_init_75 (by decide) ?_
  refine ww_bast hX (pc := 77) rfl (by decide) (by omega) (by omega) dX11_init_77 ?_
  refine ww_dupR hX (pc := 78) dX11_init_78 ?_
  refine ww_bipush hX (pc := 79) (x := 7) dX11_init_79 (by decide) ?_
  refine ww_bipush hX (pc := 81) (x := 102) dX11_init_81 (by decide) ?_
  refine ww_bast hX (pc := 83) rfl (by decide) (by omega) (by omega) dX11_init_83 ?_
  refine ww_dupR hX (pc := 84) dX11_init_84 ?_
  refine ww_bipush hX (pc := 85) (x := 8) dX11_init_85 (by decide) ?_
  refine ww_bipush hX (pc := 87) (x := 32) dX11_init_87 (by decide) ?_
  refine ww_bast hX (pc := 89) rfl (by decide) (by omega) (by omega) dX11_init_89 ?_
  refine ww_dupR hX (pc := 90) dX11_init_90 ?_
  refine ww_bipush hX (pc := 91) (x := 9) dX11_init_91 (by decide) ?_
  refine ww_bipush hX (pc := 93) (x := 111) dX11_init_93 (by decide) ?_
  refine ww_bast hX (pc := 95) rfl (by decide) (by omega) (by omega) dX11_init_95 ?_
  refine ww_dupR hX (pc := 96) dX11_init_96 ?_
  refine ww_bipush hX (pc := 97) (x := 10) dX11_init_97 (by decide) ?_
  refine ww_bipush hX (pc := 99) (x := 114) dX11_init_99 (by decide) ?_
  refine ww_bast hX (pc := 101) rfl (by decide) (by omega) (by omega) dX11_init_101 ?_
  refine ww_dupR hX (pc := 102) dX11_init_102 ?_
  refine ww_bipush hX (pc := 103) (x := 11) dX11_init_103 (by decide) ?_
  refine ww_bipush hX (pc := 105) (x := 32) dX11_init_105 (by decide) ?_
  refine ww_bast hX (pc := 107) rfl (by decide) (by omega) (by omega) dX11_init_107 ?_
  refine ww_dupR hX (pc := 108) dX11_init_108 ?_
  refine ww_bipush hX (pc := 109) (x := 12) dX11_init_109 (by decide) ?_
  refine ww_bipush hX (pc := 111) (x := 97) dX11_init_111 (by decide) ?_
  refine ww_bast hX (pc := 113) rfl (by decide) (by omega) (by omega) dX11_init_113 ?_
  refine ww_dupR hX (pc := 114) dX11_init_114 ?_
  refine ww_bipush hX (pc := 115) (x := 13) dX11_init_115 (by decide) ?_
  refine ww_bipush hX (pc := 117) (x := 110) dX11_init_117 (by decide) ?_
  refine ww_bast hX (pc := 119) rfl (by decide) (by omega) (by omega) dX11_init_119 ?_
  refine ww_dupR hX (pc := 120) dX11_init_120 ?_
  refine ww_bipush hX (pc := 121) (x := 14) dX11_init_121 (by decide) ?_
  refine ww_bipush hX (pc := 123) (x := 100) dX11_init_123 (by decide) ?_
  refine ww_bast hX (pc := 125) rfl (by decide) (by omega) (by omega) dX11_init_125 ?_
  refine ww_dupR hX (pc := 126) dX11_init_126 ?_
  refine ww_bipush hX (pc := 127) (x := 15) dX11_init_127 (by decide) ?_
  refine ww_bipush hX (pc := 129) (x := 32) dX11_init_129 (by decide) ?_
  refine ww_bast hX (pc := 131) rfl (by decide) (by omega) (by omega) dX11_init_131 ?_
  refine ww_dupR hX (pc := 132) dX11_init_132 ?_
  refine ww_bipush hX (pc := 133) (x := 16) dX11_init_133 (by decide) ?_
  refine ww_bipush hX (pc := 135) (x := 110) dX11_init_135 (by decide) ?_
  refine ww_bast hX (pc := 137) rfl (by decide) (by omega) (by omega) dX11_init_137 ?_
  refine ww_dupR hX (pc := 138) dX11_init_138 ?_
  refine ww_bipush hX (pc := 139) (x := 17) dX11_init_139 (by decide) ?_
  refine ww_bipush hX (pc := 141) (x := 111) dX11_init_141 (by decide) ?_
  refine ww_bast hX (pc := 143) rfl (by decide) (by omega) (by omega) dX11_init_143 ?_
  refine ww_dupR hX (pc := 144) dX11_init_144 ?_
  refine ww_bipush hX (pc := 145) (x := 18) dX11_init_145 (by decide) ?_
  refine ww_bipush hX (pc := 147) (x := 116) dX11_init_147 (by decide) ?_
  refine ww_bast hX (pc := 149) rfl (by decide) (by omega) (by omega) dX11_init_149 ?_
  refine ww_dupR hX (pc := 150) dX11_init_150 ?_
  refine ww_bipush hX (pc := 151) (x := 19) dX11_init_151 (by decide) ?_
  refine ww_bipush hX (pc := 153) (x := 32) dX11_init_153 (by decide) ?_
  refine ww_bast hX (pc := 155) rfl (by decide) (by omega) (by omega) dX11_init_155 ?_
  refine ww_dupR hX (pc := 156) dX11_init_156 ?_
  refine ww_bipush hX (pc := 157) (x := 20) dX11_init_157 (by decide) ?_
  refine ww_bipush hX (pc := 159) (x := 115) dX11_init_159 (by decide) ?_
  refine ww_bast hX (pc := 161) rfl (by decide) (by omega) (by omega) dX11_init_161 ?_
  refine ww_dupR hX (pc := 162) dX11_init_162 ?_
  refine ww_bipush hX (pc := 163) (x := 21) dX11_init_163 (by decide) ?_
  refine ww_bipush hX (pc := 165) (x := 116) dX11_init_165 (by decide) ?_
  refine ww_bast hX (pc := 167) rfl (by decide) (by omega) (by omega) dX11_init_167 ?_
  refine ww_dupR hX (pc := 168) dX11_init_168 ?_
  refine ww_bipush hX (pc := 169) (x := 22) dX11_init_169 (by decide) ?_
  refine ww_bipush hX (pc := 171) (x := 97) dX11_init_171 (by decide) ?_
  refine ww_bast hX (pc := 173) rfl (by decide) (by omega) (by omega) dX11_init_173 ?_
  refine ww_dupR hX (pc := 174) dX11_init_174 ?_
  refine ww_bipush hX (pc := 175) (x := 23) dX11_init_175 (by decide) ?_
  refine ww_bipush hX (pc := 177) (x := 116) dX11_init_177 (by decide) ?_
  refine ww_bast hX (pc := 179) rfl (by decide) (by omega) (by omega) dX11_init_179 ?_
  refine ww_dupR hX (pc := 180) dX11_init_180 ?_
  refine ww_bipush hX (pc := 181) (x := 24) dX11_init_181 (by decide) ?_
  refine ww_bipush hX (pc := 183) (x := 101) dX11_init_183 (by decide) ?_
  refine ww_bast hX (pc := 185) rfl (by decide) (by omega) (by omega) dX11_init_185 ?_
  refine ww_dupR hX (pc := 186) dX11_init_186 ?_
  refine ww_bipush hX (pc := 187) (x := 25) dX11_init_187 (by decide) ?_
  refine ww_bipush hX (pc := 189) (x := 32) dX11_init_189 (by decide) ?_
  refine ww_bast hX (pc := 191) rfl (by decide) (by omega) (by omega) dX11_init_191 ?_
  refine ww_dupR hX (pc := 192) dX11_init_192 ?_
  refine ww_bipush hX (pc := 193) (x := 26) dX11_init_193 (by decide) ?_
  refine ww_bipush hX (pc := 195) (x := 108) dX11_init_195 (by decide) ?_
  refine ww_bast hX (pc := 197) rfl (by decide) (by omega) (by omega) dX11_init_197 ?_
  refine ww_dupR hX (pc := 198) dX11_init_198 ?_
  refine ww_bipush hX (pc := 199) (x := 27) dX11_init_199 (by decide) ?_
  refine ww_bipush hX (pc := 201) (x := 105) dX11_init_201 (by decide) ?_
  refine ww_bast hX (pc := 203) rfl (by decide) (by omega) (by omega) dX11_init_203 ?_
  refine ww_dupR hX (pc := 204) dX11_init_204 ?_
  refine ww_bipush hX (pc := 205) (x := 28) dX11_init_205 (by decide) ?_
  refine ww_bipush hX (pc := 207) (x := 116) dX11_init_207 (by decide) ?_
  refine ww_bast hX (pc := 209) rfl (by decide) (by omega) (by omega) dX11_init_209 ?_
  refine ww_dupR hX (pc := 210) dX11_init_210 ?_
  refine ww_bipush hX (pc := 211) (x := 29) dX11_init_211 (by decide) ?_
  refine ww_bipush hX (pc := 213) (x := 32) dX11_init_213 (by decide) ?_
  refine ww_bast hX (pc := 215) rfl (by decide) (by omega) (by omega) dX11_init_215 ?_
  refine ww_dupR hX (pc := 216) dX11_init_216 ?_
  refine ww_bipush hX (pc := 217) (x := 30) dX11_init_217 (by decide) ?_
  refine ww_bipush hX (pc := 219) (x := 115) dX11_init_219 (by decide) ?_
  refine ww_bast hX (pc := 221) rfl (by decide) (by omega) (by omega) dX11_init_221 ?_
  refine ww_dupR hX (pc := 222) dX11_init_222 ?_
  refine ww_bipush hX (pc := 223) (x := 31) dX11_init_223 (by decide) ?_
  refine ww_bipush hX (pc := 225) (x := 117) dX11_init_225 (by decide) ?_
  refine ww_bast hX (pc := 227) rfl (by decide) (by omega) (by omega) dX11_init_227 ?_
  refine ww_dupR hX (pc := 228) dX11_init_228 ?_
  refine ww_bipush hX (pc := 229) (x := 32) dX11_init_229 (by decide) ?_
  refine ww_bipush hX (pc := 231) (x := 109) dX11_init_231 (by decide) ?_
  refine ww_bast hX (pc := 233) rfl (by decide) (by omega) (by omega) dX11_init_233 ?_
  refine ww_dupR hX (pc := 234) dX11_init_234 ?_
  refine ww_bipush hX (pc := 235) (x := 33) dX11_init_235 (by decide) ?_
  refine ww_bipush hX (pc := 237) (x := 32) dX11_init_237 (by decide) ?_
  refine ww_bast hX (pc := 239) rfl (by decide) (by omega) (by omega) dX11_init_239 ?_
  refine ww_dupR hX (pc := 240) dX11_init_240 ?_
  refine ww_bipush hX (pc := 241) (x := 34) dX11_init_241 (by decide) ?_
  refine ww_bipush hX (pc := 243) (x := 109) dX11_init_243 (by decide) ?_
  refine ww_bast hX (pc := 245) rfl (by decide) (by omega) (by omega) dX11_init_245 ?_
  refine ww_dupR hX (pc := 246) dX11_init_246 ?_
  refine ww_bipush hX (pc := 247) (x := 35) dX11_init_247 (by decide) ?_
  refine ww_bipush hX (pc := 249) (x := 105) dX11_init_249 (by decide) ?_
  refine ww_bast hX (pc := 251) rfl (by decide) (by omega) (by omega) dX11_init_251 ?_
  refine ww_dupR hX (pc := 252) dX11_init_252 ?_
  refine ww_bipush hX (pc := 253) (x := 36) dX11_init_253 (by decide) ?_
  refine ww_bipush hX (pc := 255) (x := 120) dX11_init_255 (by decide) ?_
  refine ww_bast hX (pc := 257) rfl (by decide) (by omega) (by omega) dX11_init_257 ?_
  refine ww_dupR hX (pc := 258) dX11_init_258 ?_
  refine ww_bipush hX (pc := 259) (x := 37) dX11_init_259 (by decide) ?_
  refine ww_bipush hX (pc := 261) (x := 32) dX11_init_261 (by decide) ?_
  refine ww_bast hX (pc := 263) rfl (by decide) (by omega) (by omega) dX11_init_263 ?_
  refine ww_dupR hX (pc := 264) dX11_init_264 ?_
  refine ww_bipush hX (pc := 265) (x := 38) dX11_init_265 (by decide) ?_
  refine ww_bipush hX (pc := 267) (x := 102) dX11_init_267 (by decide) ?_
  refine ww_bast hX (pc := 269) rfl (by decide) (by omega) (by omega) dX11_init_269 ?_
  refine ww_dupR hX (pc := 270) dX11_init_270 ?_
  refine ww_bipush hX (pc := 271) (x := 39) dX11_init_271 (by decide) ?_
  refine ww_bipush hX (pc := 273) (x := 105) dX11_init_273 (by decide) ?_
  refine ww_bast hX (pc := 275) rfl (by decide) (by omega) (by omega) dX11_init_275 ?_
  refine ww_dupR hX (pc := 276) dX11_init_276 ?_
  refine ww_bipush hX (pc := 277) (x := 40) dX11_init_277 (by decide) ?_
  refine ww_bipush hX (pc := 279) (x := 114) dX11_init_279 (by decide) ?_
  refine ww_bast hX (pc := 281) rfl (by decide) (by omega) (by omega) dX11_init_281 ?_
  refine ww_dupR hX (pc := 282) dX11_init_282 ?_
  refine ww_bipush hX (pc := 283) (x := 41) dX11_init_283 (by decide) ?_
  refine ww_bipush hX (pc := 285) (x := 115) dX11_init_285 (by decide) ?_
  refine ww_bast hX (pc := 287) rfl (by decide) (by omega) (by omega) dX11_init_287 ?_
  refine ww_dupR hX (pc := 288) dX11_init_288 ?_
  refine ww_bipush hX (pc := 289) (x := 42) dX11_init_289 (by decide) ?_
  refine ww_bipush hX (pc := 291) (x := 116) dX11_init_291 (by decide) ?_
  refine ww_bast hX (pc := 293) rfl (by decide) (by omega) (by omega) dX11_init_293 ?_
  refine ww_dupR hX (pc := 294) dX11_init_294 ?_
  refine ww_bipush hX (pc := 295) (x := 43) dX11_init_295 (by decide) ?_
  refine ww_bipush hX (pc := 297) (x := 32) dX11_init_297 (by decide) ?_
  refine ww_bast hX (pc := 299) rfl (by decide) (by omega) (by omega) dX11_init_299 ?_
  refine ww_dupR hX (pc := 300) dX11_init_300 ?_
  refine ww_bipush hX (pc := 301) (x := 44) dX11_init_301 (by decide) ?_
  refine ww_bipush hX (pc := 303) (x := 108) dX11_init_303 (by decide) ?_
  refine ww_bast hX (pc := 305) rfl (by decide) (by omega) (by omega) dX11_init_305 ?_
  refine ww_dupR hX (pc := 306) dX11_init_306 ?_
  refine ww_bipush hX (pc := 307) (x := 45) dX11_init_307 (by decide) ?_
  refine ww_bipush hX (pc := 309) (x := 97) dX11_init_309 (by decide) ?_
  refine ww_bast hX (pc := 311) rfl (by decide) (by omega) (by omega) dX11_init_311 ?_
  refine ww_dupR hX (pc := 312) dX11_init_312 ?_
  refine ww_bipush hX (pc := 313) (x := 46) dX11_init_313 (by decide) ?_
  refine ww_bipush hX (pc := 315) (x := 115) dX11_init_315 (by decide) ?_
  refine ww_bast hX (pc := 317) rfl (by decide) (by omega) (by omega) dX11_init_317 ?_
  refine ww_dupR hX (pc := 318) dX11_init_318 ?_
  refine ww_bipush hX (pc := 319) (x := 47) dX11_init_319 (by decide) ?_
  refine ww_bipush hX (pc := 321) (x := 116) dX11_init_321 (by decide) ?_
  refine ww_bast hX (pc := 323) rfl (by decide) (by omega) (by omega) dX11_init_323 ?_
  refine ww_dupR hX (pc := 324) dX11_init_324 ?_
  refine ww_bipush hX (pc := 325) (x := 48) dX11_init_325 (by decide) ?_
  refine ww_bipush hX (pc := 327) (x := 32) dX11_init_327 (by decide) ?_
  refine ww_bast hX (pc := 329) rfl (by decide) (by omega) (by omega) dX11_init_329 ?_
  refine ww_dupR hX (pc := 330) dX11_init_330 ?_
  refine ww_bipush hX (pc := 331) (x := 49) dX11_init_331 (by decide) ?_
  refine ww_bipush hX (pc := 333) (x := 108) dX11_init_333 (by decide) ?_
  refine ww_bast hX (pc := 335) rfl (by decide) (by omega) (by omega) dX11_init_335 ?_
  refine ww_dupR hX (pc := 336) dX11_init_336 ?_
  refine ww_bipush hX (pc := 337) (x := 50) dX11_init_337 (by decide) ?_
  refine ww_bipush hX (pc := 339) (x := 97) dX11_init_339 (by decide) ?_
  refine ww_bast hX (pc := 341) rfl (by decide) (by omega) (by omega) dX11_init_341 ?_
  refine ww_dupR hX (pc := 342) dX11_init_342 ?_
  refine ww_bipush hX (pc := 343) (x := 51) dX11_init_343 (by decide) ?_
  refine ww_bipush hX (pc := 345) (x := 109) dX11_init_345 (by decide) ?_
  refine ww_bast hX (pc := 347) rfl (by decide) (by omega) (by omega) dX11_init_347 ?_
  refine ww_dupR hX (pc := 348) dX11_init_348 ?_
  refine ww_bipush hX (pc := 349) (x := 52) dX11_init_349 (by decide) ?_
  refine ww_bipush hX (pc := 351) (x := 112) dX11_init_351 (by decide) ?_
  refine ww_bast hX (pc := 353) rfl (by decide) (by omega) (by omega) dX11_init_353 ?_
  refine ww_dupR hX (pc := 354) dX11_init_354 ?_
  refine ww_bipush hX (pc := 355) (x := 53) dX11_init_355 (by decide) ?_
  refine ww_bipush hX (pc := 357) (x := 115) dX11_init_357 (by decide) ?_
  refine ww_bast hX (pc := 359) rfl (by decide) (by omega) (by omega) dX11_init_359 ?_
  refine ww_dupR hX (pc := 360) dX11_init_360 ?_
  refine ww_bipush hX (pc := 361) (x := 54) dX11_init_361 (by decide) ?_
  refine ww_bipush hX (pc := 363) (x := 32) dX11_init_363 (by decide) ?_
  refine ww_bast hX (pc := 365) rfl (by decide) (by omega) (by omega) dX11_init_365 ?_
  refine ww_dupR hX (pc := 366) dX11_init_366 ?_
  refine ww_bipush hX (pc := 367) (x := 55) dX11_init_367 (by decide) ?_
  refine ww_bipush hX (pc := 369) (x := 110) dX11_init_369 (by decide) ?_
  refine ww_bast hX (pc := 371) rfl (by decide) (by omega) (by omega) dX11_init_371 ?_
  refine ww_dupR hX (pc := 372) dX11_init_372 ?_
  refine ww_bipush hX (pc := 373) (x := 56) dX11_init_373 (by decide) ?_
  refine ww_bipush hX (pc := 375) (x := 101) dX11_init_375 (by decide) ?_
  refine ww_bast hX (pc := 377) rfl (by decide) (by omega) (by omega) dX11_init_377 ?_
  refine ww_dupR hX (pc := 378) dX11_init_378 ?_
  refine ww_bipush hX (pc := 379) (x := 57) dX11_init_379 (by decide) ?_
  refine ww_bipush hX (pc := 381) (x := 119) dX11_init_381 (by decide) ?_
  refine ww_bast hX (pc := 383) rfl (by decide) (by omega) (by omega) dX11_init_383 ?_
  refine ww_dupR hX (pc := 384) dX11_init_384 ?_
  refine ww_bipush hX (pc := 385) (x := 58) dX11_init_385 (by decide) ?_
  refine ww_bipush hX (pc := 387) (x := 115) dX11_init_387 (by decide) ?_
  refine ww_bast hX (pc := 389) rfl (by decide) (by omega) (by omega) dX11_init_389 ?_
  refine ww_dupR hX (pc := 390) dX11_init_390 ?_
  refine ww_bipush hX (pc := 391) (x := 59) dX11_init_391 (by decide) ?_
  refine ww_bipush hX (pc := 393) (x := 32) dX11_init_393 (by decide) ?_
  refine ww_bast hX (pc := 395) rfl (by decide) (by omega) (by omega) dX11_init_395 ?_
  refine ww_putR hX (pc := 396) (fun _ => hIn rfl) gX11_30 (by decide) rfl dX11_init_396 ?_
  refine ww_aload_n hX (pc := 399) dX11_init_399 rfl ?_
  refine ww_sipush hX (pc := 400) (x := 400) dX11_init_400 (by decide) ?_
  refine ww_na_bytez hX (pc := 403) (N := 400) (z := 55) rfl tb_681 rfl (by omega) (by omega) (by omega) dX11_init_403 ?_
  refine ww_putR hX (pc := 405) (fun _ => hIn rfl) gX11_34 (by decide) rfl dX11_init_405 ?_
  refine ww_aload_n hX (pc := 408) dX11_init_408 rfl ?_
  refine ww_iconst hX (pc := 409) (x := 5) dX11_init_409 rfl ?_
  refine ww_na_intz hX (pc := 410) (N := 5) (z := 56) rfl tb_103 rfl (by omega) (by omega) (by omega) dX11_init_410 ?_
  refine ww_putR hX (pc := 412) (fun _ => hIn rfl) gX11_37 (by decide) rfl dX11_init_412 ?_
  refine ww_aload_n hX (pc := 415) dX11_init_415 rfl ?_
  refine ww_iconst hX (pc := 416) (x := (-1)) dX11_init_416 rfl ?_
  refine ww_putI hX (pc := 417) (fun h9 => absurd h9 (by decide)) gX11_40 rfl rfl dX11_init_417 ?_
  refine ww_aload_n hX (pc := 420) dX11_init_420 rfl ?_
  refine ww_sipush hX (pc := 421) (x := 401) dX11_init_421 (by decide) ?_
  refine ww_na_intz hX (pc := 424) (N := 401) (z := 57) rfl tb_103 rfl (by omega) (by omega) (by omega) dX11_init_424 ?_
  refine ww_putR hX (pc := 426) (fun _ => hIn rfl) gX11_43 (by decide) rfl dX11_init_426 ?_
  refine ww_aload_n hX (pc := 429) dX11_init_429 rfl ?_
  refine ww_sipush hX (pc := 430) (x := 401) dX11_init_430 (by decide) ?_
  refine ww_na_intz hX (pc := 433) (N := 401) (z := 58) rfl tb_103 rfl (by omega) (by omega) (by omega) dX11_init_433 ?_
  refine ww_putR hX (pc := 435) (fun _ => hIn rfl) gX11_46 (by decide) rfl dX11_init_435 ?_
  refine ww_aload_n hX (pc := 438) dX11_init_438 rfl ?_
  refine ww_sipush hX (pc := 439) (x := 401) dX11_init_439 (by decide) ?_
  refine ww_na_intz hX (pc := 442) (N := 401) (z := 59) rfl tb_103 rfl (by omega) (by omega) (by omega) dX11_init_442 ?_
  refine ww_putR hX (pc := 444) (fun _ => hIn rfl) gX11_49 (by decide) rfl dX11_init_444 ?_
  refine ww_aload_n hX (pc := 447) dX11_init_447 rfl ?_
  refine ww_bipush hX (pc := 448) (x := 8) dX11_init_448 (by decide) ?_
  refine ww_na_intz hX (pc := 450) (N := 8) (z := 60) rfl tb_103 rfl (by omega) (by omega) (by omega) dX11_init_450 ?_
  refine ww_putR hX (pc := 452) (fun _ => hIn rfl) gX11_52 (by decide) rfl dX11_init_452 ?_
  refine ww_aload_n hX (pc := 455) dX11_init_455 rfl ?_
  refine ww_sipush hX (pc := 456) (x := 256) dX11_init_456 (by decide) ?_
  refine ww_na_intz hX (pc := 459) (N := 256) (z := 61) rfl tb_103 rfl (by omega) (by omega) (by omega) dX11_init_459 ?_
  refine ww_putR hX (pc := 461) (fun _ => hIn rfl) gX11_55 (by decide) rfl dX11_init_461 ?_
  refine ww_aload_n hX (pc := 464) dX11_init_464 rfl ?_
  refine ww_sipush hX (pc := 465) (x := 256) dX11_init_465 (by decide) ?_
  refine ww_na_longz hX (pc := 468) (N := 256) (z := 62) rfl tb_177 rfl (by omega) (by omega) (by omega) dX11_init_468 ?_
  refine ww_putR hX (pc := 470) (fun _ => hIn rfl) gX11_58 (by decide) rfl dX11_init_470 ?_
  refine ww_aload_n hX (pc := 473) dX11_init_473 rfl ?_
  refine ww_iconst hX (pc := 474) (x := (-1)) dX11_init_474 rfl ?_
  refine ww_putI hX (pc := 475) (fun h9 => absurd h9 (by decide)) gX11_62 rfl rfl dX11_init_475 ?_
  refine ww_aload_n hX (pc := 478) dX11_init_478 rfl ?_
  refine ww_sipush hX (pc := 479) (x := 256) dX11_init_479 (by decide) ?_
  refine ww_na_boolz hX (pc := 482) (N := 256) (z := 63) rfl tb_320 rfl (by omega) (by omega) (by omega) dX11_init_482 ?_
  refine ww_putR hX (pc := 484) (fun _ => hIn rfl) gX11_65 (by decide) rfl dX11_init_484 ?_
  refine ww_aload_n hX (pc := 487) dX11_init_487 rfl ?_
  refine ww_bipush hX (pc := 488) (x := 10) dX11_init_488 (by decide) ?_
  refine ww_na_intz hX (pc := 490) (N := 10) (z := 64) rfl tb_103 rfl (by omega) (by omega) (by omega) dX11_init_490 ?_
  refine ww_putR hX (pc := 492) (fun _ => hIn rfl) gX11_68 (by decide) rfl dX11_init_492 ?_
  refine ww_aload_n hX (pc := 495) dX11_init_495 rfl ?_
  refine ww_sipush hX (pc := 496) (x := 256) dX11_init_496 (by decide) ?_
  refine ww_na_intz hX (pc := 499) (N := 256) (z := 65) rfl tb_103 rfl (by omega) (by omega) (by omega) dX11_init_499 ?_
  refine ww_putR hX (pc := 501) (fun _ => hIn rfl) gX11_71 (by decide) rfl dX11_init_501 ?_
  refine ww_aload_n hX (pc := 504) dX11_init_504 rfl ?_
  refine ww_bipush hX (pc := 505) (x := 8) dX11_init_505 (by decide) ?_
  refine ww_na_intz hX (pc := 507) (N := 8) (z := 66) rfl tb_103 rfl (by omega) (by omega) (by omega) dX11_init_507 ?_
  refine ww_putR hX (pc := 509) (fun _ => hIn rfl) gX11_74 (by decide) rfl dX11_init_509 ?_
  refine ww_aload_n hX (pc := 512) dX11_init_512 rfl ?_
  refine ww_bipush hX (pc := 513) (x := 30) dX11_init_513 (by decide) ?_
  refine ww_na_intz hX (pc := 515) (N := 30) (z := 67) rfl tb_103 rfl (by omega) (by omega) (by omega) dX11_init_515 ?_
  refine ww_putR hX (pc := 517) (fun _ => hIn rfl) gX11_77 (by decide) rfl dX11_init_517 ?_
  refine ww_aload_n hX (pc := 520) dX11_init_520 rfl ?_
  refine ww_sipush hX (pc := 521) (x := 256) dX11_init_521 (by decide) ?_
  refine ww_na_longz hX (pc := 524) (N := 256) (z := 68) rfl tb_177 rfl (by omega) (by omega) (by omega) dX11_init_524 ?_
  refine ww_putR hX (pc := 526) (fun _ => hIn rfl) gX11_80 (by decide) rfl dX11_init_526 ?_
  refine ww_aload_n hX (pc := 529) dX11_init_529 rfl ?_
  refine ww_sipush hX (pc := 530) (x := 256) dX11_init_530 (by decide) ?_
  refine ww_na_longz hX (pc := 533) (N := 256) (z := 69) rfl tb_177 rfl (by omega) (by omega) (by omega) dX11_init_533 ?_
  refine ww_putR hX (pc := 535) (fun _ => hIn rfl) gX11_83 (by decide) rfl dX11_init_535 ?_
  refine ww_aload_n hX (pc := 538) dX11_init_538 rfl ?_
  refine ww_sipush hX (pc := 539) (x := 4352) dX11_init_539 (by decide) ?_
  refine ww_na_intz hX (pc := 542) (N := 4352) (z := 70) rfl tb_103 rfl (by omega) (by omega) (by omega) dX11_init_542 ?_
  refine ww_putR hX (pc := 544) (fun _ => hIn rfl) gX11_86 (by decide) rfl dX11_init_544 ?_
  refine ww_aload_n hX (pc := 547) dX11_init_547 rfl ?_
  refine ww_sipush hX (pc := 548) (x := 4352) dX11_init_548 (by decide) ?_
  refine ww_na_intz hX (pc := 551) (N := 4352) (z := 71) rfl tb_103 rfl (by omega) (by omega) (by omega) dX11_init_551 ?_
  refine ww_putR hX (pc := 553) (fun _ => hIn rfl) gX11_89 (by decide) rfl dX11_init_553 ?_
  refine ww_aload_n hX (pc := 556) dX11_init_556 rfl ?_
  refine ww_bipush hX (pc := 557) (x := 24) dX11_init_557 (by decide) ?_
  refine ww_na_intz hX (pc := 559) (N := 24) (z := 72) rfl tb_103 rfl (by omega) (by omega) (by omega) dX11_init_559 ?_
  refine ww_putR hX (pc := 561) (fun _ => hIn rfl) gX11_92 (by decide) rfl dX11_init_561 ?_
  refine ww_aload_n hX (pc := 564) dX11_init_564 rfl ?_
  refine ww_iconst hX (pc := 565) (x := (-1)) dX11_init_565 rfl ?_
  refine ww_putI hX (pc := 566) (fun h9 => absurd h9 (by decide)) gX11_95 rfl rfl dX11_init_566 ?_
  refine ww_aload_n hX (pc := 569) dX11_init_569 rfl ?_
  refine ww_getR hX (pc := 570) fX11_20 (by decide) rfl rfl dX11_init_570 ?_
  refine ww_sipush hX (pc := 573) (x := 304) dX11_init_573 (by decide) ?_
  refine ww_iconst hX (pc := 576) (x := 3) dX11_init_576 rfl ?_
  refine ww_iast hX (pc := 577) rfl (by decide) (by omega) (by omega) dX11_init_577 ?_
  refine ww_aload_n hX (pc := 578) dX11_init_578 rfl ?_
  refine ww_getR hX (pc := 579) fX11_20 (by decide) rfl rfl dX11_init_579 ?_
  refine ww_sipush hX (pc := 582) (x := 305) dX11_init_582 (by decide) ?_
  refine ww_iconst hX (pc := 585) (x := 4) dX11_init_585 rfl ?_
  refine ww_iast hX (pc := 586) rfl (by decide) (by omega) (by omega) dX11_init_586 ?_
  refine ww_nmH (fun I0 e0 => ?_)
  refine ww_nmK (fun J0 f0 => ?_)
  refine ww_nmR (fun R0 g0 => ?_)
  refine ww_nmS (fun S0 k0 => ?_)
  refine ww_nmU (fun uc0 us0 hu0 hs0 => ?_)
  have kI0 : Kp 49 73 Ia I0 := by
    rw [e0]
    repeat (first | exact Kp_rf | refine Kp_up ?_ _ _ (by decide) | refine Kp_upR ?_ _ (by decide))
  have kJ0 : Kp 49 73 Ja J0 := by
    rw [f0]
    repeat (first | exact Kp_rf | refine Kp_up ?_ _ _ (by decide) | refine Kp_upR ?_ _ (by decide))
  have gR0 : ∀ k9, k9 ≠ 49 → R0 k9 = Ra k9 := fun k9 h9 => by
    rw [g0]
    simp only [up2, if_neg h9]
  have hln : S0.length = 73 := by
    rw [k0]
    rfl
  have hR2 : ∀ q ∈ layR2, R0 q.1 q.2.1 = some q.2.2 := by
    rw [g0]
    intro q9 h9
    have h8 : q9 ∈ [(49, 2, 50), (49, 3, 51), (49, 4, 52), (49, 5, 53), (49, 7, 54), (49, 8, 55), (49, 9, 56), (49, 12, 57), (49, 13, 58), (49, 14, 59), (49, 22, 60), (49, 23, 61), (49, 24, 62), (49, 26, 63), (49, 27, 64), (49, 29, 65), (49, 30, 66), (49, 32, 67), (49, 34, 68), (49, 35, 69), (49, 36, 70), (49, 37, 71), (49, 38, 72)] := h9
    simp only [List.mem_cons, List.not_mem_nil, or_false] at h8
    rcases h8 with rfl | rfl | rfl | rfl | rfl | rfl | rfl | rfl | rfl | rfl | rfl | rfl | rfl | rfl | rfl | rfl | rfl | rfl | rfl | rfl | rfl | rfl | rfl <;> rfl
  have hL : LY R0 S0 := by
    refine ⟨fun q9 h9 => ?_, ?_⟩
    · by_cases h8 : q9.1 < 49
      · rw [gR0 q9.1 (by omega)]; exact hR q9 h9 h8
      · exact hR2 q9 (layR_2 h9 h8)
    · rw [k0]; decide +kernel
  have z51 : I0 51 = up1 (up1 (fun _ => 0) (304 : Int).toNat 3) (305 : Int).toNat 4 := by
    rw [e0]
    rfl
  have z53 : I0 53 = fun _ => 0 := by
    rw [e0]
    rfl
  have z61 : I0 61 = fun _ => 0 := by
    rw [e0]
    rfl
  have z6 : I0 49 6 = 0 := by
    rw [e0]
    exact hI0 6
  have z10 : I0 49 10 = 0 := by
    rw [e0]
    exact hI0 10
  have z33 : I0 49 33 = 0 := by
    rw [e0]
    exact hI0 33
  have z39 : I0 49 39 = -1 := by
    rw [e0]
    rfl
  have z54 : I0 54 59 = 32 := by
    rw [e0]
    show i_b 32 = 32
    decide
  have cI0 := RX_0 z51 z53 z61 z10 z33 z39 z54
  have qI0 := RX_o cI0
  have z11 : I0 49 11 = -1 := by
    rw [e0]
    rfl
  have z54r : I0 54 = zI54 := by
    rw [e0]
    rfl
  have zs0 : I0 49 0 = 0 := by
    rw [e0]
    exact hI0 0
  have zv1 : I0 49 1 = 0 := by
    rw [e0]
    exact hI0 1
  have zm25 : I0 49 25 = -1 := by
    rw [e0]
    rfl
  have zd39 : I0 49 39 = -1 := by
    rw [e0]
    rfl
  have zr50 : I0 50 = fun _ => 0 := by
    rw [e0]
    rfl
  clear e0 f0 g0 k0
  refine ww_iconst hX (pc := 587) (x := 0) dX11_init_587 rfl ?_
  refine ww_istore_n hX (pc := 588) (lv' := [some (kR (some 49)), some (kI 0)]) dX11_init_588 (by decide) rfl rfl ?_
  have hl_589 : ∀ (n_589 : Nat) (i : Int) (I589 : aI1) (J589 : aI1), (8 - i).toNat = n_589 → (Ch [51] [] I0 I589 ∧ RX I589 ∧ Kp 49 73 J0 J589 ∧ I589 51 304 = I0 51 304 ∧ I589 51 305 = I0 51 305 ∧ (0 ≤ i ∧ i ≤ 8) ∧ (∀ j : Nat, I589 51 j = if 256 ≤ (j : Int) ∧ (j : Int) < 256 + i then 1 else (up1 (up1 (fun _ => 0) (304 : Int).toNat 3) (305 : Int).toNat 4 : Nat → Int) j)) → WW X 589 [some (kR (some 49)), some (kI i)] [] I589 J589 R0 S0 uc0 us0 := by
    intro n_589
    induction n_589 using Nat.strongRecOn with
    | ind n_589 ih_589 =>
      intro i I589 J589 hm_589 hv_589
      have hq_589 := Sh0_i hm_589
      clear hm_589
      obtain ⟨kI589, cI589, kJ589, r304_I589, r305_I589, hv, hbj⟩ := hv_589
      have qI589 := RX_o cI589
      have rf_I589 : FU (I589 51 304) = FU (I0 51 304) := by rw [r304_I589]
      refine ww_iload_n hX (pc := 589) dX11_init_589 rfl ?_
      refine ww_bipush hX (pc := 590) (x := 8) dX11_init_590 (by decide) ?_
      refine ww_icmp_ge hX (pc := 592) (tgt := 612) dX11_init_592 (by decide) (fun h_592 => ?_) (fun h_592 => ?_)
      · simp only [w32_mod] at h_592
        refine ww_aload_n hX (pc := 612) dX11_init_612 rfl ?_
        refine vV0 hX (pc := 613) sX11_98 (xs_49 hL) (c5_X11_empties l0 hL cI589 ) (by decide) (by omega) (by omega) (Nat.le_of_ble_eq_true rfl) dX11_init_613 (fun I_613 J_613 h_613 => ?_)
        have kJ_613 : Kp 49 73 J0 J_613 := Kp_tr kJ589 h_613.2.1
        have kI_613 : Ch [51] [] I0 I_613 := Ch_tr kI589 (Ch_wd h_613.1 (by decide) (by decide))
        have cI_613 : RX I_613 := h_613.2.2.1
        have qI_613 := RX_o cI_613
        have y9 := h_613.2.2.2
        exact ww_vret hX (pc := 616) hT (by omega) (by omega) dX11_init_616 ⟨rfl, hL, cI_613, fun k9 h9 => ⟨(kI_613.1 k9 (by omega) (fun q9 => by simp only [List.mem_singleton] at q9; omega)).trans (kI0 k9 (by omega)), (kJ_613 k9 (by omega)).trans (kJ0 k9 (by omega)), gR0 k9 (by omega)⟩, hln, (kI_613.1 53 (by decide) (by decide)).trans z53, (kI_613.2 10 (by decide)).trans z10, (kI_613.2 6 (by decide)).trans z6, (kI_613.2 33 (by decide)).trans z33, (by rw [y9, EMr_o (by decide) (by decide), hbj 304, if_neg (by omega)]; rfl), (by rw [y9, EMr_o (by decide) (by decide), hbj 305, if_neg (by omega)]; rfl), (by rw [y9, EMr_o (by decide) (by decide), hbj 306, if_neg (by omega)]; rfl), (by rw [y9]; exact EMr_z (by decide)), (fun j hj => by rw [y9, EMr_o (by omega) (by omega), hbj (256 + j), if_pos (by omega)]), (fun j hj => by rw [y9, EMr_o (by omega) (by omega), hbj (288 + j), if_neg (by omega)]; exact (up1_n _ _ (by show 288 + j ≠ 305; omega)).trans (up1_n _ _ (by show 288 + j ≠ 304; omega))), (by rw [y9, EMr_o (by decide) (by decide), hbj 310, if_neg (by omega)]; rfl), (kI_613.2 11 (by decide)).trans z11, (fun i hi => by rw [kI_613.1 54 (by decide) (by decide), z54r]; exact zI54_w i hi), (fun s9 hs9 => by rw [y9]; unfold EMr; rw [if_pos hs9]), (kI_613.2 0 (by decide)).trans zs0, (kI_613.2 1 (by decide)).trans zv1, (kI_613.2 25 (by decide)).trans zm25, (kI_613.2 39 (by decide)).trans zd39, (kI_613.1 50 (by decide) (by decide)).trans zr50, (by rw [y9]; exact EMr_z (by decide)), (by rw [y9]; exact EMr_z (by decide))⟩
      · simp only [w32_mod] at h_592
        refine ww_aload_n hX (pc := 595) dX11_init_595 rfl ?_
        refine ww_getR hX (pc := 596) fX11_20 (by decide) (xs_49 hL) (xr_49_3 hL) dX11_init_596 ?_
        refine ww_sipush hX (pc := 599) (x := 256) dX11_init_599 (by decide) ?_
        refine ww_iload_n hX (pc := 602) dX11_init_602 rfl ?_
        refine ww_iadd hX (pc := 603) dX11_init_603 ?_
        refine ww_iconst hX (pc := 604) (x := 1) dX11_init_604 rfl ?_
        refine ww_iast hX (pc := 605) (xs_51 hL) (by decide) (by omega) (by omega) dX11_init_605 ?_
        refine ww_nmH (fun I_605 eI_605 => ?_)
        have kI_605 : Ch [51] [] I0 I_605 := by rw [eI_605]; exact Ch_r kI589 (by decide) (by decide)
        have cI_605 : RX I_605 := by rw [eI_605]; exact RX_lo cI589 (by omega)
        have qI_605 := RX_o cI_605
        have r304_I_605 : I_605 51 304 = I589 51 304 := by rw [eI_605, up2_n _ _ (Or.inr (by omega))]
        have r305_I_605 : I_605 51 305 = I589 51 305 := by rw [eI_605, up2_n _ _ (Or.inr (by omega))]
        have rf_I_605 : FU (I_605 51 304) = FU (I589 51 304) := by rw [r304_I_605]
        have t605 : ∀ j : Nat, I_605 51 j = if 256 ≤ (j : Int) ∧ (j : Int) < 256 + (i + 1) then 1 else (up1 (up1 (fun _ => 0) (304 : Int).toNat 3) (305 : Int).toNat 4 : Nat → Int) j := fun j => by
          rw [eI_605, up2_row]
          by_cases e9 : j = (256 + i).toNat
          · rw [e9, up1_s, if_pos (by omega)]
          · rw [up1_n _ _ e9, hbj j]
            by_cases e8 : 256 ≤ (j : Int) ∧ (j : Int) < 256 + i
            · rw [if_pos e8, if_pos (by omega)]
            · rw [if_neg e8, if_neg (by omega)]
        refine ww_iinc hX (pc := 606) (lv' := [some (kR (some 49)), some (kI (i + 1))]) dX11_init_606 rfl (by decide) rfl rfl ?_
        refine ww_goto hX (pc := 609) (tgt := 589) dX11_init_609 (by decide) ?_
        exact ih_589 _ (by have hm9 := Sh0_e hq_589; omega) (i + 1) I_605 J589 rfl ⟨kI_605, cI_605, kJ589, by omega, by omega, ⟨by omega, by omega⟩, t605⟩
  exact hl_589 _ 0 I0 J0 rfl ⟨Ch_rf, cI0, (Kp_rf (a := 49) (b := 73)), rfl, rfl, ⟨by omega, by omega⟩, fun j => by rw [if_neg (by omega), z51]⟩
end
section
/-! what is WANTED: chains of STATES -/
/-- 1 where p, else 0 -/
noncomputable def iz (p : Prop) : Int := @ite Int p (Classical.propDecidable p) 1 0
theorem iz_y {p : Prop} (h : p) : iz p = 1 := if_pos h
theorem iz_n {p : Prop} (h : ¬ p) : iz p = 0 := if_neg h
theorem iz_cg {p q : Prop} (h : p ↔ q) : iz p = iz q := by
  by_cases hp : p
  · rw [iz_y hp, iz_y (h.mp hp)]
  · rw [iz_n hp, iz_n (fun hq => hp (h.mpr hq))]
theorem iz_r (p : Prop) : iz p = 0 ∨ iz p = 1 := by
  by_cases hp : p
  · exact Or.inr (iz_y hp)
  · exact Or.inl (iz_n hp)
theorem iz_nn (p : Prop) : 0 ≤ iz p := by
  rcases iz_r p with h | h <;> rw [h] <;> decide
/-- s becomes t by LAMPS below l that are not broken -/
def CZ (l : Nat) (g s t : Nat) : Prop := ∀ j : Nat, (s.testBit j = true → t.testBit j = true) ∧ (l ≤ j → s.testBit j = t.testBit j) ∧ (¬ s.testBit j = t.testBit j → g.testBit j = false)
theorem CZ_0 {g s t : Nat} : CZ 0 g s t ↔ s = t := by
  constructor
  · intro h
    exact Nat.eq_of_testBit_eq (fun j => (h j).2.1 (Nat.zero_le j))
  · rintro rfl
    exact fun j => ⟨id, fun _ => rfl, fun h => absurd rfl h⟩
theorem tb_xp {t l j : Nat} : (t ^^^ 2 ^ l).testBit j = if l = j then !t.testBit j else t.testBit j := by
  rw [Nat.testBit_xor, Nat.testBit_two_pow]
  by_cases h : l = j
  · rw [if_pos h]; simp [h]
  · rw [if_neg h]; simp [h]
theorem CZ_s {l g s t : Nat} : CZ (l + 1) g s t ↔ (CZ l g s t ∨ ((t.testBit l = true ∧ g.testBit l = false) ∧ CZ l g s (t ^^^ 2 ^ l))) := by
  constructor
  · intro h
    by_cases e : s.testBit l = t.testBit l
    · refine Or.inl (fun j => ⟨(h j).1, fun hj => ?_, (h j).2.2⟩)
      by_cases e2 : j = l
      · rw [e2]; exact e
      · exact (h j).2.1 (by omega)
    · have h1 := (h l).2.2 e
      have h2 := (h l).1
      have hs : s.testBit l = false := by
        cases hb : s.testBit l
        · rfl
        · exact absurd (hb.trans (h2 hb).symm) e
      have ht : t.testBit l = true := by
        cases hb : t.testBit l
        · exact absurd (hs.trans hb.symm) e
        · rfl
      refine Or.inr ⟨⟨ht, h1⟩, fun j => ?_⟩
      rw [tb_xp]
      by_cases e2 : l = j
      · subst e2
        rw [if_pos rfl, hs, ht]
        exact ⟨fun h9 => absurd h9 (by decide), fun _ => rfl, fun h9 => absurd rfl h9⟩
      · rw [if_neg e2]
        exact ⟨(h j).1, fun hj => (h j).2.1 (by omega), (h j).2.2⟩
  · rintro (h | ⟨⟨h1, h2⟩, h⟩)
    · exact fun j => ⟨(h j).1, fun hj => (h j).2.1 (by omega), (h j).2.2⟩
    · intro j
      have hj := h j
      rw [tb_xp] at hj
      by_cases e2 : l = j
      · subst e2
        rw [if_pos rfl, h1] at hj
        rw [h1]
        exact ⟨fun _ => rfl, fun h9 => absurd h9 (by omega), fun _ => h2⟩
      · rw [if_neg e2] at hj
        exact ⟨hj.1, fun h9 => hj.2.1 (by omega), hj.2.2⟩
theorem CZ_x {l g s t : Nat} (h : CZ l g s t) (k : CZ l g s (t ^^^ 2 ^ l)) : False := by
  have h1 := (h l).2.1 (Nat.le_refl l)
  have h2 := (k l).2.1 (Nat.le_refl l)
  rw [tb_xp, if_pos rfl, h1] at h2
  cases hb : t.testBit l <;> rw [hb] at h2 <;> cases h2
theorem CZ_sub {l g s t : Nat} (h : CZ l g s t) : s &&& t = s := by
  refine Nat.eq_of_testBit_eq (fun j => ?_)
  rw [Nat.testBit_and]
  cases hb : s.testBit j
  · rfl
  · rw [(h j).1 hb]; rfl
theorem CZ_le {l g s t : Nat} (h : CZ l g s t) : s ≤ t := by
  have := CZ_sub h
  have h2 : s &&& t ≤ t := Nat.and_le_right
  omega
/-- the broken LAMPS as bits -/
def gN (g : Int) : Nat := (i_and 255 g).toNat
theorem gN_and {x : Nat} {g : Int} (hx : x < 256) : i_and (x : Int) g = ((x &&& gN g : Nat) : Int) := by
  have h := i_and_le (a := 255) (by decide) (by decide) g
  have e1 : i_and (x : Int) (i_and 255 g) = i_and (i_and (x : Int) 255) g := by
    unfold i_and
    rw [Int32.ofInt_toInt, Int32.ofInt_toInt, Int32.and_assoc]
  have e2 : i_and (x : Int) 255 = (x : Int) := by
    have h9 := i_and_N (a := x) (b := 255) (by omega)
    rw [show x &&& 255 = x from by
      have h8 := Nat.and_two_pow_sub_one_eq_mod x 8
      rw [show (2 : Nat) ^ 8 - 1 = 255 from rfl] at h8
      rw [h8]
      exact Nat.mod_eq_of_lt (by omega)] at h9
    exact h9
  rw [e2] at e1
  rw [← e1]
  have h9 := i_and_N (a := x) (b := gN g) (by omega)
  rw [show ((gN g : Nat) : Int) = i_and 255 g by unfold gN; omega] at h9
  exact h9
/-- LAMP l is broken -/
theorem gN_bit {l : Nat} {g : Int} (hl : l < 8) : i_and g ((2 ^ l : Nat) : Int) = 0 ↔ (gN g).testBit l = false := by
  have hp : (2 : Nat) ^ l < 256 := Nat.pow_lt_pow_right (n := 8) (by decide) hl
  rw [i_and_comm, gN_and hp]
  constructor
  · intro h
    have h0 : 2 ^ l &&& gN g = 0 := by omega
    have h1 : (2 ^ l &&& gN g).testBit l = false := by rw [h0]; exact Nat.zero_testBit l
    rw [Nat.testBit_and, Nat.testBit_two_pow_self] at h1
    exact h1
  · intro h
    have h0 : 2 ^ l &&& gN g = 0 := Nat.eq_of_testBit_eq (fun j => by
      rw [Nat.testBit_and, Nat.testBit_two_pow, Nat.zero_testBit]
      by_cases e : l = j
      · rw [← e, h]; simp
      · simp [e])
    rw [h0]; rfl
theorem CZ_iff {s t : Nat} {g : Int} (hs : s < 256) (ht : t < 256) : CZ 8 (gN g) s t ↔ (s &&& t = s ∧ i_and (i_xor (t : Int) (s : Int)) g = 0) := by
  have ex : i_and (i_xor (t : Int) (s : Int)) g = (((t ^^^ s) &&& gN g : Nat) : Int) := by
    rw [i_xor_N (by omega) (by omega)]
    exact gN_and (Nat.xor_lt_two_pow (n := 8) (by omega) (by omega))
  rw [ex]
  constructor
  · intro h
    refine ⟨CZ_sub h, ?_⟩
    have h0 : (t ^^^ s) &&& gN g = 0 := Nat.eq_of_testBit_eq (fun j => by
      rw [Nat.testBit_and, Nat.testBit_xor, Nat.zero_testBit]
      by_cases e : s.testBit j = t.testBit j
      · rw [e]; simp
      · rw [(h j).2.2 e]; simp)
    rw [h0]; rfl
  · rintro ⟨h1, h2⟩ j
    have h0 : (t ^^^ s) &&& gN g = 0 := by omega
    have h3 : s.testBit j = true → t.testBit j = true := fun hb => by
      have h4 : (s &&& t).testBit j = true := by rw [h1]; exact hb
      rw [Nat.testBit_and, hb] at h4
      exact h4
    refine ⟨h3, fun hj => ?_, fun hne => ?_⟩
    · have hp : (2 : Nat) ^ 8 ≤ 2 ^ j := Nat.pow_le_pow_right (by decide) hj
      rw [Nat.testBit_lt_two_pow (show s < 2 ^ j by omega), Nat.testBit_lt_two_pow (show t < 2 ^ j by omega)]
    · have h5 : ((t ^^^ s) &&& gN g).testBit j = false := by rw [h0]; exact Nat.zero_testBit j
      rw [Nat.testBit_and, Nat.testBit_xor] at h5
      have h6 : (t.testBit j ^^ s.testBit j) = true := by
        cases ha : s.testBit j <;> cases hb : t.testBit j <;> first | rfl | exact absurd (ha.trans hb.symm) hne
      rw [h6] at h5
      exact h5
/-- by n LAMPS there are no others -/
theorem CZ_n {n l g s t : Nat} (hs : s < 2 ^ n) (ht : t < 2 ^ n) (hl : n ≤ l) : CZ n g s t ↔ CZ l g s t := by
  constructor
  · exact fun h j => ⟨(h j).1, fun hj => (h j).2.1 (by omega), (h j).2.2⟩
  · intro h j
    refine ⟨(h j).1, fun hj => ?_, (h j).2.2⟩
    have hp : (2 : Nat) ^ n ≤ 2 ^ j := Nat.pow_le_pow_right (by decide) hj
    rw [Nat.testBit_lt_two_pow (show s < 2 ^ j by omega), Nat.testBit_lt_two_pow (show t < 2 ^ j by omega)]
/-- the same, from below -/
theorem CZ_d {l g s t : Nat} : CZ (l + 1) g s t ↔ (CZ l g s t ∨ ((s.testBit l = false ∧ g.testBit l = false) ∧ CZ l g (s ^^^ 2 ^ l) t)) := by
  constructor
  · intro h
    by_cases e : s.testBit l = t.testBit l
    · refine Or.inl (fun j => ⟨(h j).1, fun hj => ?_, (h j).2.2⟩)
      by_cases e2 : j = l
      · rw [e2]; exact e
      · exact (h j).2.1 (by omega)
    · have h1 := (h l).2.2 e
      have h2 := (h l).1
      have hs : s.testBit l = false := by
        cases hb : s.testBit l
        · rfl
        · exact absurd (hb.trans (h2 hb).symm) e
      have ht : t.testBit l = true := by
        cases hb : t.testBit l
        · exact absurd (hs.trans hb.symm) e
        · rfl
      refine Or.inr ⟨⟨hs, h1⟩, fun j => ?_⟩
      rw [tb_xp]
      by_cases e2 : l = j
      · subst e2
        rw [if_pos rfl, hs, ht]
        exact ⟨fun _ => rfl, fun _ => rfl, fun h9 => absurd rfl h9⟩
      · rw [if_neg e2]
        exact ⟨(h j).1, fun hj => (h j).2.1 (by omega), (h j).2.2⟩
  · rintro (h | ⟨⟨h1, h2⟩, h⟩)
    · exact fun j => ⟨(h j).1, fun hj => (h j).2.1 (by omega), (h j).2.2⟩
    · intro j
      have hj := h j
      rw [tb_xp] at hj
      by_cases e2 : l = j
      · subst e2
        rw [h1]
        exact ⟨fun h9 => by (cases h9), fun h9 => absurd h9 (by omega), fun _ => h2⟩
      · rw [if_neg e2] at hj
        exact ⟨hj.1, fun h9 => hj.2.1 (by omega), hj.2.2⟩
theorem bt_sub {l t : Nat} : 2 ^ l &&& t = 2 ^ l ↔ t.testBit l = true := by
  constructor
  · intro h
    have h1 : (2 ^ l &&& t).testBit l = true := by rw [h]; exact Nat.testBit_two_pow_self
    rw [Nat.testBit_and, Nat.testBit_two_pow_self] at h1
    exact h1
  · intro h
    refine Nat.eq_of_testBit_eq (fun j => ?_)
    rw [Nat.testBit_and, Nat.testBit_two_pow]
    by_cases e : l = j
    · rw [← e, h]; simp
    · simp [e]
theorem xp_le {l t : Nat} (h : t.testBit l = true) : t ^^^ 2 ^ l < t := by
  have h1 : (t ^^^ 2 ^ l) &&& t = t ^^^ 2 ^ l := Nat.eq_of_testBit_eq (fun j => by
    rw [Nat.testBit_and, tb_xp]
    by_cases e : l = j
    · rw [if_pos e, ← e, h]; rfl
    · rw [if_neg e]; cases t.testBit j <;> rfl)
  have h2 : (t ^^^ 2 ^ l) &&& t ≤ t := Nat.and_le_right
  have h3 : t ^^^ 2 ^ l ≠ t := fun h9 => by
    have h8 := tb_xp (t := t) (l := l) (j := l)
    rw [if_pos rfl, h9, h] at h8
    cases h8
  omega
/-- sums over what lies below, by the LAMPS below l -/
noncomputable def ZT (w : Nat → Int) (g N l t : Nat) : Int := Sm (fun s => iz (CZ l g s t) * w s) N
theorem ZT_0 {w : Nat → Int} {g N t : Nat} (ht : t < N) : ZT w g N 0 t = w t := by
  unfold ZT
  have e1 : Sm (fun s => iz (CZ 0 g s t) * w s) N = Sm (fun s => iz (CZ 0 g s t) * w s) (t + 1) := Sm_cut (fun s h1 _ => by rw [iz_n (fun h9 => by have := CZ_0.mp h9; omega), Int.zero_mul]) (by omega)
  have e2 : Sm (fun s => iz (CZ 0 g s t) * w s) t = 0 := Sm_z (fun s hs => by rw [iz_n (fun h9 => by have := CZ_0.mp h9; omega), Int.zero_mul])
  rw [e1, Sm_s, e2, iz_y (CZ_0.mpr rfl)]
  omega
theorem ZT_y {w : Nat → Int} {g N l t : Nat} (h1 : t.testBit l = true) (h2 : g.testBit l = false) : ZT w g N (l + 1) t = ZT w g N l t + ZT w g N l (t ^^^ 2 ^ l) := by
  unfold ZT
  rw [← Sm_add]
  refine Sm_cg (fun s _ => ?_)
  by_cases a : CZ l g s t
  · rw [iz_y (CZ_s.mpr (Or.inl a)), iz_y a, iz_n (fun h9 => CZ_x a h9)]; omega
  · by_cases b : CZ l g s (t ^^^ 2 ^ l)
    · rw [iz_y (CZ_s.mpr (Or.inr ⟨⟨h1, h2⟩, b⟩)), iz_n a, iz_y b]; omega
    · rw [iz_n a, iz_n b, iz_n (fun h9 => (CZ_s.mp h9).elim a (fun h8 => b h8.2))]; omega
theorem ZT_n {w : Nat → Int} {g N l t : Nat} (h : ¬ (t.testBit l = true ∧ g.testBit l = false)) : ZT w g N (l + 1) t = ZT w g N l t :=
  Sm_cg (fun s _ => by rw [iz_cg ((CZ_s (l := l) (g := g) (s := s) (t := t)).trans ⟨fun h9 => h9.elim id (fun h8 => absurd h8.1 h), Or.inl⟩)])
/-- from s the NEWS w is SENT by u -/
noncomputable def mE (code : Nat → Int) (g : Nat) (w : Int) (s u : Nat) : Int := iz (CZ 8 g s u ∧ code u = w)
/-- chains from 0 over the first k WANTED that end in t -/
noncomputable def PC (code : Nat → Int) (g : Nat) (wt : Nat → Int) (N : Nat) : Nat → Nat → Int
  | 0, t => if t = 0 then 1 else 0
  | k + 1, t => Sm (fun s => PC code g wt N k s * mE code g (wt k) s t) N
/-- chains from s over the last r of w that end at OIL v -/
noncomputable def NC (code : Nat → Int) (g : Nat) (wt oil : Nat → Int) (N w : Nat) : Nat → Nat → Int → Int
  | 0, s, v => if oil s = v then 1 else 0
  | r + 1, s, v => Sm (fun u => mE code g (wt (w - (r + 1))) s u * NC code g wt oil N w r u v) N
section
variable {code wt oil code' wt' oil' : Nat → Int} {g N w : Nat}
theorem PC_nn : ∀ k t : Nat, 0 ≤ PC code g wt N k t
  | 0, t => by show 0 ≤ (if t = 0 then (1 : Int) else 0); split <;> decide
  | k + 1, t => Sm_nn (fun s _ => Int.mul_nonneg (PC_nn k s) (iz_nn _))
theorem NC_nn : ∀ (r s : Nat) (v : Int), 0 ≤ NC code g wt oil N w r s v
  | 0, s, v => by show 0 ≤ (if oil s = v then (1 : Int) else 0); split <;> decide
  | r + 1, s, v => Sm_nn (fun u _ => Int.mul_nonneg (iz_nn _) (NC_nn r u v))
/-- the chains are cut anywhere -/
theorem PC_NC (v : Int) : ∀ r : Nat, r ≤ w → Sm (fun u => PC code g wt N (w - r) u * NC code g wt oil N w r u v) N = Sm (fun u => PC code g wt N w u * (if oil u = v then 1 else 0)) N
  | 0, _ => rfl
  | r + 1, h => by
    rw [← PC_NC v r (by omega), show w - r = (w - (r + 1)) + 1 by omega]
    have e1 : Sm (fun u => PC code g wt N (w - (r + 1)) u * NC code g wt oil N w (r + 1) u v) N = Sm (fun u => Sm (fun x => PC code g wt N (w - (r + 1)) u * (mE code g (wt (w - (r + 1))) u x * NC code g wt oil N w r x v)) N) N := Sm_cg (fun u _ => (Sm_mul N).symm)
    rw [e1, Sm_ex]
    refine Sm_cg (fun x _ => ?_)
    show Sm (fun u => PC code g wt N (w - (r + 1)) u * (mE code g (wt (w - (r + 1))) u x * NC code g wt oil N w r x v)) N = Sm (fun s => PC code g wt N (w - (r + 1)) s * mE code g (wt (w - (r + 1))) s x) N * NC code g wt oil N w r x v
    rw [Int.mul_comm, ← Sm_mul]
    exact Sm_cg (fun u _ => by rw [← Int.mul_assoc, Int.mul_comm])
theorem NC_all (hN : 0 < N) (v : Int) : NC code g wt oil N w w 0 v = Sm (fun u => PC code g wt N w u * (if oil u = v then 1 else 0)) N := by
  rw [← PC_NC v w (Nat.le_refl w), Nat.sub_self]
  rw [Sm_cut (n := 1) (fun k h1 _ => by
    show (if k = 0 then (1 : Int) else 0) * _ = 0
    rw [if_neg (by omega), Int.zero_mul]) (by omega)]
  show _ = 0 + (if (0 : Nat) = 0 then (1 : Int) else 0) * NC code g wt oil N w w 0 v
  rw [if_pos rfl, Int.one_mul, Int.zero_add]
theorem NC_pos {r s : Nat} {v : Int} (h : 0 < NC code g wt oil N w (r + 1) s v) : ∃ u : Nat, u < N ∧ (CZ 8 g s u ∧ code u = wt (w - (r + 1))) ∧ 0 < NC code g wt oil N w r u v := by
  have key : ∀ n : Nat, 0 < Sm (fun u => mE code g (wt (w - (r + 1))) s u * NC code g wt oil N w r u v) n → ∃ u : Nat, u < n ∧ (CZ 8 g s u ∧ code u = wt (w - (r + 1))) ∧ 0 < NC code g wt oil N w r u v := by
    intro n
    induction n with
    | zero => intro h9; exact absurd h9 (by show ¬ (0 : Int) < 0; decide)
    | succ n ih =>
      intro h9
      by_cases hz : 0 < Sm (fun u => mE code g (wt (w - (r + 1))) s u * NC code g wt oil N w r u v) n
      · obtain ⟨u, h1, h2⟩ := ih hz
        exact ⟨u, by omega, h2⟩
      · rw [Sm_s] at h9
        have h8 : 0 < mE code g (wt (w - (r + 1))) s n * NC code g wt oil N w r n v := by omega
        by_cases hp : CZ 8 g s n ∧ code n = wt (w - (r + 1))
        · have e1 : mE code g (wt (w - (r + 1))) s n = 1 := iz_y hp
          rw [e1, Int.one_mul] at h8
          exact ⟨n, by omega, hp, h8⟩
        · have e1 : mE code g (wt (w - (r + 1))) s n = 0 := iz_n hp
          rw [e1, Int.zero_mul] at h8
          exact absurd h8 (by decide)
  exact key N h
theorem NC_in {r s u : Nat} {v : Int} (hu : u < N) (h1 : CZ 8 g s u) (h2 : code u = wt (w - (r + 1))) (h3 : 0 < NC code g wt oil N w r u v) : 0 < NC code g wt oil N w (r + 1) s v := by
  have h4 := Sm_at (f := fun u => mE code g (wt (w - (r + 1))) s u * NC code g wt oil N w r u v) (n := N) (k := u) (fun k _ => Int.mul_nonneg (iz_nn _) (NC_nn r k v)) hu
  have e1 : mE code g (wt (w - (r + 1))) s u = 1 := iz_y ⟨h1, h2⟩
  have h5 : NC code g wt oil N w r u v ≤ NC code g wt oil N w (r + 1) s v := by
    have h6 : mE code g (wt (w - (r + 1))) s u * NC code g wt oil N w r u v ≤ NC code g wt oil N w (r + 1) s v := h4
    rw [e1, Int.one_mul] at h6
    exact h6
  omega
/-- where chains end at OIL v, v is the OIL of a STATE that holds s -/
theorem NC_v : ∀ (r s : Nat) (v : Int), s < N → 0 < NC code g wt oil N w r s v → ∃ t : Nat, t < N ∧ s &&& t = s ∧ oil t = v
  | 0, s, v, hs, h => by
    by_cases e : oil s = v
    · exact ⟨s, hs, Nat.and_self s, e⟩
    · have h2 : 0 < (if oil s = v then (1 : Int) else 0) := h
      rw [if_neg e] at h2
      exact absurd h2 (by decide)
  | r + 1, s, v, hs, h => by
    obtain ⟨u, h1, ⟨h2, -⟩, h3⟩ := NC_pos h
    obtain ⟨t, h4, h5, h6⟩ := NC_v r u v h1 h3
    refine ⟨t, h4, ?_, h6⟩
    rw [← CZ_sub h2, Nat.and_assoc, h5]
theorem PC_cg (hc : ∀ s, s < N → code s = code' s) (hw : ∀ k, k < w → wt k = wt' k) : ∀ k t : Nat, k ≤ w → t < N → PC code g wt N k t = PC code' g wt' N k t
  | 0, _, _, _ => rfl
  | k + 1, t, hk, ht => Sm_cg (fun s hs => by
    rw [PC_cg hc hw k s (by omega) hs]
    unfold mE
    rw [hc t ht, hw k (by omega)])
theorem NC_cg (hc : ∀ s, s < N → code s = code' s) (hw : ∀ k, k < w → wt k = wt' k) (ho : ∀ s, s < N → oil s = oil' s) : ∀ (r s : Nat) (v : Int), r ≤ w → s < N → NC code g wt oil N w r s v = NC code' g wt' oil' N w r s v
  | 0, s, v, _, hs => by show (if oil s = v then (1 : Int) else 0) = (if oil' s = v then (1 : Int) else 0); rw [ho s hs]
  | r + 1, s, v, hr, hs => Sm_cg (fun u hu => by
    rw [NC_cg hc hw ho r u v (by omega) hu]
    unfold mE
    rw [hc u hu, hw _ (by omega)])
end
/-! the least and how many: the reference's, from o on -/
def BW (f : Int → Int) (o best ways : Int) : Prop := (best = 1000000000 ∧ ways = 0 ∧ ∀ v, f v = 0) ∨ ((0 ≤ best ∧ best < 1000000000) ∧ 0 < f (best + o) ∧ (∀ v, v < best + o → f v = 0) ∧ ways = min 1000000000 (f (best + o)))
theorem BW_0 {o : Int} : BW (fun _ => 0) o 1000000000 0 := Or.inl ⟨rfl, rfl, fun _ => rfl⟩
theorem BW_cg {f f' : Int → Int} {o b w : Int} (h : BW f o b w) (e : ∀ v, f v = f' v) : BW f' o b w := by
  have : f = f' := funext e
  rw [← this]; exact h
theorem BW_w {f : Int → Int} {o b w : Int} (h : BW f o b w) (hf : ∀ v, 0 ≤ f v) : 0 ≤ w ∧ w ≤ 1000000000 := by
  rcases h with ⟨-, h, -⟩ | ⟨-, -, -, h⟩
  · omega
  · have := hf (b + o); omega
theorem BW_b {f : Int → Int} {o b w : Int} (h : BW f o b w) : 0 ≤ b ∧ b ≤ 1000000000 := by
  rcases h with ⟨h, -, -⟩ | ⟨h, -, -, -⟩ <;> omega
theorem BW_far {f k : Int → Int} {o b w : Int} (h : BW f o b w) (hk : ∀ v, k v = 0) : BW (fun v => f v + k v) o b w := BW_cg h (fun v => by rw [hk v]; omega)
/-- far is far -/
theorem BW_fz {f : Int → Int} {o w : Int} (h : BW f o 1000000000 w) : ∀ v, f v = 0 := by
  rcases h with ⟨-, -, h⟩ | ⟨h, -⟩
  · exact h
  · exact absurd h.2 (by decide)
theorem BW_gt {f k : Int → Int} {o b w o' b' w' : Int} (h : BW f o b w) (hk : BW k o' b' w') (h1 : ¬ b' = 1000000000) (h2 : b < b' + (o' - o)) (h3 : b' + (o' - o) < 1000000000) : BW (fun v => f v + k v) o b w := by
  rcases hk with ⟨k1, -⟩ | ⟨k1, k2, k3, k4⟩
  · exact absurd k1 h1
  · rcases h with ⟨g1, -⟩ | ⟨g1, g2, g3, g4⟩
    · omega
    · have e : k (b + o) = 0 := k3 _ (by omega)
      refine Or.inr ⟨g1, ?_, fun v hv => ?_, ?_⟩
      · show 0 < f (b + o) + k (b + o); omega
      · show f v + k v = 0; rw [g3 v hv, k3 v (by omega)]; rfl
      · show w = min 1000000000 (f (b + o) + k (b + o)); rw [e, Int.add_zero]; exact g4
theorem BW_lt {f k : Int → Int} {o b w o' b' w' : Int} (h : BW f o b w) (hk : BW k o' b' w') (h1 : ¬ b' = 1000000000) (h2 : b' + (o' - o) < b) (h0 : 0 ≤ b' + (o' - o)) (h3 : b' + (o' - o) < 1000000000) : BW (fun v => f v + k v) o (b' + (o' - o)) w' := by
  rcases hk with ⟨k1, -⟩ | ⟨k1, k2, k3, k4⟩
  · exact absurd k1 h1
  · have e9 : b' + (o' - o) + o = b' + o' := by omega
    have fz : ∀ v, v ≤ b' + o' → f v = 0 := fun v hv => by
      rcases h with ⟨-, -, g⟩ | ⟨-, -, g3, -⟩
      · exact g v
      · exact g3 v (by omega)
    refine Or.inr ⟨⟨h0, h3⟩, ?_, fun v hv => ?_, ?_⟩
    · rw [e9]; show 0 < f (b' + o') + k (b' + o'); rw [fz _ (Int.le_refl _)]; omega
    · rw [e9] at hv; show f v + k v = 0; rw [fz v (by omega), k3 v hv]; rfl
    · rw [e9]; show w' = min 1000000000 (f (b' + o') + k (b' + o')); rw [fz _ (Int.le_refl _), Int.zero_add]; exact k4
theorem BW_eq {f k : Int → Int} {o b w o' b' w' : Int} (h : BW f o b w) (hk : BW k o' b' w') (h1 : ¬ b' = 1000000000) (h2 : b' + (o' - o) = b) (h3 : b < 1000000000) (hf : ∀ v, 0 ≤ f v) (hk0 : ∀ v, 0 ≤ k v) : BW (fun v => f v + k v) o b (min 1000000000 (w + w')) := by
  rcases hk with ⟨k1, -⟩ | ⟨k1, k2, k3, k4⟩
  · exact absurd k1 h1
  · rcases h with ⟨g1, -⟩ | ⟨g1, g2, g3, g4⟩
    · omega
    · have e9 : b' + o' = b + o := by omega
      rw [e9] at k2 k3 k4
      refine Or.inr ⟨g1, ?_, fun v hv => ?_, ?_⟩
      · show 0 < f (b + o) + k (b + o); omega
      · show f v + k v = 0; rw [g3 v hv, k3 v hv]; rfl
      · show min 1000000000 (w + w') = min 1000000000 (f (b + o) + k (b + o)); omega
/-! the class's -/
def CW (f : Int → Int) (least tog : Int) : Prop := (least = -1 ∧ tog = 0 ∧ ∀ v, f v = 0) ∨ (0 ≤ least ∧ 0 < f least ∧ (∀ v, v < least → f v = 0) ∧ tog = f least)
theorem CW_cg {f f' : Int → Int} {b w : Int} (h : CW f b w) (e : ∀ v, f v = f' v) : CW f' b w := by
  have : f = f' := funext e
  rw [← this]; exact h
theorem CW_0 : CW (fun _ => 0) (-1) 0 := Or.inl ⟨rfl, rfl, fun _ => rfl⟩
/-- c ways more at OIL o -/
theorem CW_z {f : Int → Int} {b w o c : Int} (h : CW f b w) (hc : c = 0) : CW (fun v => f v + c * (if o = v then 1 else 0)) b w := CW_cg h (fun v => by rw [hc, Int.zero_mul, Int.add_zero])
theorem CW_gt {f : Int → Int} {b w o c : Int} (h : CW f b w) (h1 : ¬ b = -1) (h2 : b < o) : CW (fun v => f v + c * (if o = v then 1 else 0)) b w := by
  rcases h with ⟨g1, -⟩ | ⟨g1, g2, g3, g4⟩
  · exact absurd g1 h1
  · have e : (if o = b then (1 : Int) else 0) = 0 := if_neg (by omega)
    refine Or.inr ⟨g1, ?_, fun v hv => ?_, ?_⟩
    · show 0 < f b + c * (if o = b then 1 else 0); rw [e, Int.mul_zero]; omega
    · show f v + c * (if o = v then 1 else 0) = 0; rw [g3 v hv, if_neg (by omega), Int.mul_zero]; rfl
    · show w = f b + c * (if o = b then 1 else 0); rw [e, Int.mul_zero, Int.add_zero]; exact g4
theorem CW_eq {f : Int → Int} {b w o c : Int} (h : CW f b w) (h1 : o = b) (h0 : 0 ≤ o) (hc : 0 < c) : CW (fun v => f v + c * (if o = v then 1 else 0)) o (w + c) := by
  subst h1
  rcases h with ⟨g1, -⟩ | ⟨g1, g2, g3, g4⟩
  · omega
  · refine Or.inr ⟨g1, ?_, fun v hv => ?_, ?_⟩
    · show 0 < f o + c * (if o = o then 1 else 0); rw [if_pos rfl, Int.mul_one]; omega
    · show f v + c * (if o = v then 1 else 0) = 0; rw [g3 v hv, if_neg (by omega), Int.mul_zero]; rfl
    · show w + c = f o + c * (if o = o then 1 else 0); rw [if_pos rfl, Int.mul_one, g4]
theorem CW_lt {f : Int → Int} {b w o c : Int} (h : CW f b w) (h1 : b = -1 ∨ o < b) (h0 : 0 ≤ o) (hc : 0 < c) : CW (fun v => f v + c * (if o = v then 1 else 0)) o c := by
  have fz : ∀ v, v ≤ o → f v = 0 := fun v hv => by
    rcases h with ⟨-, -, g⟩ | ⟨g1, -, g3, -⟩
    · exact g v
    · exact g3 v (by omega)
  refine Or.inr ⟨h0, ?_, fun v hv => ?_, ?_⟩
  · show 0 < f o + c * (if o = o then 1 else 0); rw [if_pos rfl, Int.mul_one, fz o (Int.le_refl o)]; omega
  · show f v + c * (if o = v then 1 else 0) = 0; rw [fz v (by omega), if_neg (by omega), Int.mul_zero]; rfl
  · show c = f o + c * (if o = o then 1 else 0); rw [if_pos rfl, Int.mul_one, fz o (Int.le_refl o), Int.zero_add]
/-- both tell the same -/
theorem CW_BW {f f' : Int → Int} {l t b w : Int} (h : CW f l t) (k : BW f' 0 b w) (e : ∀ v, f v = f' v) : (l = -1 ∧ b = 1000000000 ∧ t = 0 ∧ w = 0) ∨ (l = b ∧ 0 ≤ l ∧ b < 1000000000 ∧ w = min 1000000000 t) := by
  have e : f = f' := funext e
  subst e
  rcases h with ⟨h1, h2, h3⟩ | ⟨h1, h2, h3, h4⟩
  · rcases k with ⟨k1, k2, -⟩ | ⟨-, k2, -⟩
    · exact Or.inl ⟨h1, k1, h2, k2⟩
    · rw [h3] at k2; exact absurd k2 (by decide)
  · rcases k with ⟨-, -, k3⟩ | ⟨k1, k2, k3, k4⟩
    · rw [k3] at h2; exact absurd h2 (by decide)
    · rw [Int.add_zero] at k2 k3 k4
      have e2 : l = b := by
        by_cases a : l < b
        · rw [k3 l a] at h2; exact absurd h2 (by decide)
        · by_cases a2 : b < l
          · rw [h3 b a2] at k2; exact absurd k2 (by decide)
          · omega
      rw [← e2] at k4
      exact Or.inr ⟨e2, h1, by omega, by rw [k4, h4]⟩
/-! the first chain for OIL v -/
/-- t is the first that goes on from s by the NEWS w, with r more behind -/
def GO (code : Nat → Int) (g : Nat) (wt oil : Nat → Int) (N w : Nat) (L : Int) (i s t : Nat) : Prop := (t < N ∧ CZ 8 g s t ∧ code t = wt i) ∧ 0 < NC code g wt oil N w (w - (i + 1)) t L
def FS (code : Nat → Int) (g : Nat) (wt oil : Nat → Int) (N w : Nat) (L : Int) (i s t : Nat) : Prop := GO code g wt oil N w L i s t ∧ ∀ u, u < t → ¬ GO code g wt oil N w L i s u
/-- F tells the first chain, up to k -/
def FC (code : Nat → Int) (g : Nat) (wt oil : Nat → Int) (N w : Nat) (L : Int) (F : Nat → Int) (k : Nat) : Prop := ∀ i, i < k → 0 ≤ F i ∧ FS code g wt oil N w L i (if i = 0 then 0 else (F (i - 1)).toNat) (F i).toNat
theorem FS_un {code wt oil : Nat → Int} {g N w : Nat} {L : Int} {i s t u : Nat} (h : FS code g wt oil N w L i s t) (k : FS code g wt oil N w L i s u) : t = u := by
  by_cases a : t < u
  · exact absurd h.1 (k.2 t a)
  · by_cases b : u < t
    · exact absurd k.1 (h.2 u b)
    · omega
theorem FC_un {code wt oil : Nat → Int} {g N w : Nat} {L : Int} {F G : Nat → Int} {k : Nat} (h : FC code g wt oil N w L F k) (h2 : FC code g wt oil N w L G k) : ∀ i, i < k → F i = G i := by
  intro i
  induction i with
  | zero =>
    intro hi
    have a := h 0 hi
    have b := h2 0 hi
    have := FS_un a.2 b.2
    omega
  | succ i ih =>
    intro hi
    have a := h (i + 1) hi
    have b := h2 (i + 1) hi
    have e := ih (by omega)
    rw [if_neg (by omega), show i + 1 - 1 = i by omega] at a b
    rw [e] at a
    have := FS_un a.2 b.2
    omega
theorem GO_cg {code code' wt wt' oil oil' : Nat → Int} {g N w : Nat} {L : Int} {i s t : Nat} (hc : ∀ s, s < N → code s = code' s) (hw : ∀ k, k < w → wt k = wt' k) (ho : ∀ s, s < N → oil s = oil' s) (hi : i < w) (h : GO code g wt oil N w L i s t) : GO code' g wt' oil' N w L i s t := by
  obtain ⟨⟨h1, h2, h3⟩, h4⟩ := h
  exact ⟨⟨h1, h2, by rw [← hc t h1, ← hw i hi]; exact h3⟩, by rw [← NC_cg hc hw ho (w - (i + 1)) t L (by omega) h1]; exact h4⟩
theorem FS_cg {code code' wt wt' oil oil' : Nat → Int} {g N w : Nat} {L : Int} {i s t : Nat} (hc : ∀ s, s < N → code s = code' s) (hw : ∀ k, k < w → wt k = wt' k) (ho : ∀ s, s < N → oil s = oil' s) (hi : i < w) (h : FS code g wt oil N w L i s t) : FS code' g wt' oil' N w L i s t :=
  ⟨GO_cg hc hw ho hi h.1, fun u hu h9 => h.2 u hu (GO_cg (fun s hs => (hc s hs).symm) (fun k hk => (hw k hk).symm) (fun s hs => (ho s hs).symm) hi h9)⟩
/-- where chains from s end at L, one goes on -/
theorem GO_ex {code wt oil : Nat → Int} {g N w : Nat} {L : Int} {i s : Nat} (hi : i < w) (h : 0 < NC code g wt oil N w (w - i) s L) : ∃ t, GO code g wt oil N w L i s t := by
  rw [show w - i = (w - (i + 1)) + 1 by omega] at h
  obtain ⟨u, h1, ⟨h2, h3⟩, h4⟩ := NC_pos h
  rw [show w - (w - (i + 1) + 1) = i by omega] at h3
  exact ⟨u, ⟨h1, h2, h3⟩, h4⟩
/-! the class's cells -/
theorem PC_s {code wt : Nat → Int} {g N k t : Nat} : PC code g wt N (k + 1) t = if code t = wt k then ZT (PC code g wt N k) g N 8 t else 0 := by
  show Sm (fun s => PC code g wt N k s * mE code g (wt k) s t) N = _
  by_cases h : code t = wt k
  · rw [if_pos h]
    unfold ZT mE
    exact Sm_cg (fun s _ => by rw [Int.mul_comm, iz_cg (p := CZ 8 g s t ∧ code t = wt k) (q := CZ 8 g s t) ⟨fun h9 => h9.1, fun h9 => ⟨h9, h⟩⟩])
  · rw [if_neg h]
    exact Sm_z (fun s _ => by unfold mE; rw [iz_n (fun h9 => h h9.2), Int.mul_zero])
theorem ZT_8 {w : Nat → Int} {g n t : Nat} (hn : n ≤ 8) (ht : t < 2 ^ n) : ZT w g (2 ^ n) n t = ZT w g (2 ^ n) 8 t :=
  Sm_cg (fun s hs => by rw [iz_cg (CZ_n hs ht hn)])
/-- LAMP l: the STATES below q are through -/
noncomputable def UZ (w : Nat → Int) (g N l q t : Nat) : Int := @ite Int (t.testBit l = true ∧ t < q) (Classical.propDecidable _) (ZT w g N (l + 1) t) (ZT w g N l t)
theorem UZ_y {w : Nat → Int} {g N l q t : Nat} (h : t.testBit l = true ∧ t < q) : UZ w g N l q t = ZT w g N (l + 1) t := if_pos h
theorem UZ_n {w : Nat → Int} {g N l q t : Nat} (h : ¬ (t.testBit l = true ∧ t < q)) : UZ w g N l q t = ZT w g N l t := if_neg h
theorem UZ_0 {w : Nat → Int} {g N l : Nat} {F : Nat → Int} (h : JW (ZT w g N l) N F) : JW (UZ w g N l (2 ^ l)) N F := JW_cg h (fun t _ => (UZ_n (fun h9 => by
  have h1 := bt_sub.mpr h9.1
  have h2 : 2 ^ l &&& t ≤ t := Nat.and_le_right
  omega)).symm)
theorem UZ_e {w : Nat → Int} {g N l q : Nat} {F : Nat → Int} (h : JW (UZ w g N l q) N F) (hq : N ≤ q) : JW (ZT w g N (l + 1)) N F := JW_cg h (fun t ht => by
  by_cases a : t.testBit l = true
  · exact UZ_y ⟨a, by omega⟩
  · rw [UZ_n (fun h9 => a h9.1), ZT_n (fun h9 => a h9.1)])
theorem UZ_br {w : Nat → Int} {g N l : Nat} {F : Nat → Int} (h : JW (ZT w g N l) N F) (hg : ¬ g.testBit l = false) : JW (ZT w g N (l + 1)) N F := JW_cg h (fun t _ => (ZT_n (fun h9 => hg h9.2)).symm)
theorem UZ_st {w : Nat → Int} {g N l q q' x : Nat} {F : Nat → Int} (h : JW (UZ w g N l q) N F) (hq : q < N) (hb : q.testBit l = true) (hg : g.testBit l = false) (hx : x = q ^^^ 2 ^ l) (h1 : q < q') (h2 : ∀ t, t.testBit l = true → q < t → q' ≤ t) : JW (UZ w g N l q') N (up1 F q (F q + F x)) := by
  intro t ht
  have hxl := xp_le hb
  by_cases e : t = q
  · rw [e, up1_s, h q hq, h x (by omega), UZ_n (fun h9 => by omega), UZ_n (fun h9 => by
      have h8 := h9.1
      rw [hx, tb_xp, if_pos rfl, hb] at h8
      cases h8), UZ_y ⟨hb, h1⟩, ZT_y hb hg, hx]
  · rw [up1_n _ _ e, h t ht]
    by_cases a : t.testBit l = true ∧ t < q
    · rw [UZ_y a, UZ_y ⟨a.1, by omega⟩]
    · rw [UZ_n a, UZ_n (fun h9 => by
        by_cases h8 : t < q
        · exact a ⟨h9.1, h8⟩
        · have := h2 t h9.1 (by omega)
          omega)]
/-- WANTED NEWS k: the STATES below q are through -/
noncomputable def VZ (code : Nat → Int) (g : Nat) (wt : Nat → Int) (N k q t : Nat) : Int := if t < q then PC code g wt N (k + 1) t else ZT (PC code g wt N k) g N 8 t
theorem VZ_0 {code wt : Nat → Int} {g n k : Nat} {F : Nat → Int} (hn : n ≤ 8) (h : JW (ZT (PC code g wt (2 ^ n) k) g (2 ^ n) n) (2 ^ n) F) : JW (VZ code g wt (2 ^ n) k 0) (2 ^ n) F := JW_cg h (fun t ht => by
  unfold VZ
  rw [if_neg (by omega), ZT_8 hn ht])
theorem VZ_y {code wt : Nat → Int} {g N k q : Nat} {F : Nat → Int} (h : JW (VZ code g wt N k q) N F) (hc : code q = wt k) : JW (VZ code g wt N k (q + 1)) N F := JW_cg h (fun t ht => by
  unfold VZ
  by_cases e : t = q
  · rw [e, if_neg (by omega), if_pos (by omega), PC_s, if_pos hc]
  · by_cases a : t < q
    · rw [if_pos a, if_pos (by omega)]
    · rw [if_neg a, if_neg (by omega)])
theorem VZ_n {code wt : Nat → Int} {g N k q : Nat} {F : Nat → Int} (h : JW (VZ code g wt N k q) N F) (hc : ¬ code q = wt k) : JW (VZ code g wt N k (q + 1)) N (up1 F q 0) := by
  intro t ht
  by_cases e : t = q
  · rw [e, up1_s]
    unfold VZ
    rw [if_pos (by omega), PC_s, if_neg hc]
  · rw [up1_n _ _ e, h t ht]
    unfold VZ
    by_cases a : t < q
    · rw [if_pos a, if_pos (by omega)]
    · rw [if_neg a, if_neg (by omega)]
theorem VZ_e {code wt : Nat → Int} {g N k q : Nat} {F : Nat → Int} (h : JW (VZ code g wt N k q) N F) (hq : N ≤ q) : JW (PC code g wt N (k + 1)) N F := JW_cg h (fun t ht => by
  unfold VZ
  rw [if_pos (by omega)])
/-! there are not too many chains -/
def Pr (c : Nat → Int) (t : Nat) : Nat → Int
  | 0 => 1
  | n + 1 => Pr c t n * (if t.testBit n = true then c n else 1)
theorem Pr_nn {c : Nat → Int} {t : Nat} (hc : ∀ j, 0 ≤ c j) : ∀ n : Nat, 0 ≤ Pr c t n
  | 0 => by show (0 : Int) ≤ 1; decide
  | n + 1 => Int.mul_nonneg (Pr_nn hc n) (by split <;> first | exact hc n | decide)
theorem Pr_cg {c d : Nat → Int} {t u : Nat} : ∀ n : Nat, (∀ j, j < n → c j = d j) → (∀ j, j < n → t.testBit j = u.testBit j) → Pr c t n = Pr d u n
  | 0, _, _ => rfl
  | n + 1, h1, h2 => by
    show Pr c t n * (if t.testBit n = true then c n else 1) = Pr d u n * (if u.testBit n = true then d n else 1)
    rw [Pr_cg n (fun j hj => h1 j (by omega)) (fun j hj => h2 j (by omega)), h1 n (by omega), h2 n (by omega)]
/-- one more at place l -/
theorem Pr_s {c d : Nat → Int} {t l : Nat} (h1 : ∀ j, j ≠ l → d j = c j) (h2 : d l = c l + 1) (ht : t.testBit l = true) : ∀ n : Nat, l < n → Pr d t n = Pr c t n + Pr c (t ^^^ 2 ^ l) n
  | 0, h => absurd h (by omega)
  | n + 1, h => by
    show Pr d t n * (if t.testBit n = true then d n else 1) = Pr c t n * (if t.testBit n = true then c n else 1) + Pr c (t ^^^ 2 ^ l) n * (if (t ^^^ 2 ^ l).testBit n = true then c n else 1)
    by_cases e : n = l
    · rw [e, Pr_cg (c := d) (d := c) (t := t) (u := t) l (fun j hj => h1 j (by omega)) (fun _ _ => rfl), Pr_cg (c := c) (d := c) (t := t ^^^ 2 ^ l) (u := t) l (fun _ _ => rfl) (fun j hj => by rw [tb_xp, if_neg (by omega)]), tb_xp, if_pos rfl, ht, if_pos rfl, if_pos rfl, if_neg (by decide), h2, Int.mul_add]
    · have e9 : (t ^^^ 2 ^ l).testBit n = t.testBit n := by rw [tb_xp, if_neg (fun h9 => e h9.symm)]
      rw [Pr_s h1 h2 ht n (by omega), h1 n e, e9, Int.add_mul]
theorem Pr_le {c : Nat → Int} {t : Nat} {m : Int} (hc : ∀ j, 0 ≤ c j ∧ c j ≤ m) (hm : 1 ≤ m) : ∀ n : Nat, Pr c t n ≤ m ^ n
  | 0 => by
    show (1 : Int) ≤ m ^ 0
    rw [Int.pow_zero]
    exact Int.le_refl 1
  | n + 1 => by
    have ih := Pr_le (t := t) hc hm n
    have h0 := Pr_nn (t := t) (fun j => (hc j).1) n
    have h2 : (if t.testBit n = true then c n else 1) ≤ m := by split <;> first | exact (hc n).2 | exact hm
    have h3 : 0 ≤ (if t.testBit n = true then c n else 1) := by split <;> first | exact (hc n).1 | decide
    rw [Int.pow_succ]
    show Pr c t n * (if t.testBit n = true then c n else 1) ≤ m ^ n * m
    exact Int.mul_le_mul ih h2 h3 (Int.le_trans h0 ih)
theorem ZT_bd {w : Nat → Int} {g N : Nat} {k : Int} (hk : 0 ≤ k) (h : ∀ t, t < N → w t ≤ Pr (fun _ => k) t 8) : ∀ l t : Nat, l ≤ 8 → t < N → ZT w g N l t ≤ Pr (fun j => if j < l then k + 1 else k) t 8
  | 0, t, _, ht => by
    rw [ZT_0 ht]
    have e : Pr (fun j => if j < 0 then k + 1 else k) t 8 = Pr (fun _ => k) t 8 := Pr_cg 8 (fun j _ => if_neg (by omega)) (fun _ _ => rfl)
    rw [e]
    exact h t ht
  | l + 1, t, hl, ht => by
    have nn : ∀ j, 0 ≤ (fun j => if j < l then k + 1 else k) j := fun j => by
      show 0 ≤ (if j < l then k + 1 else k)
      split <;> omega
    by_cases a : t.testBit l = true
    · have e := Pr_s (c := fun j => if j < l then k + 1 else k) (d := fun j => if j < l + 1 then k + 1 else k) (t := t) (l := l) (fun j hj => by
        show (if j < l + 1 then k + 1 else k) = (if j < l then k + 1 else k)
        by_cases h9 : j < l
        · rw [if_pos h9, if_pos (by omega)]
        · rw [if_neg h9, if_neg (by omega)]) (by
        show (if l < l + 1 then k + 1 else k) = (if l < l then k + 1 else k) + 1
        rw [if_pos (by omega), if_neg (by omega)]) a 8 (by omega)
      have h1 := ZT_bd (g := g) hk h l t (by omega) ht
      by_cases b : g.testBit l = false
      · have hx := xp_le a
        have h2 := ZT_bd (g := g) hk h l (t ^^^ 2 ^ l) (by omega) (by omega)
        rw [ZT_y a b, e]
        omega
      · have h2 := Pr_nn (t := t ^^^ 2 ^ l) nn 8
        rw [ZT_n (fun h9 => b h9.2), e]
        omega
    · rw [ZT_n (fun h9 => a h9.1)]
      have e : Pr (fun j => if j < l + 1 then k + 1 else k) t 8 = Pr (fun j => if j < l then k + 1 else k) t 8 := by
        have key : ∀ n : Nat, Pr (fun j => if j < l + 1 then k + 1 else k) t n = Pr (fun j => if j < l then k + 1 else k) t n := fun n => by
          induction n with
          | zero => rfl
          | succ n ih =>
            show Pr _ t n * (if t.testBit n = true then (if n < l + 1 then k + 1 else k) else 1) = Pr _ t n * (if t.testBit n = true then (if n < l then k + 1 else k) else 1)
            rw [ih]
            by_cases e9 : n = l
            · rw [e9, if_neg a, if_neg a]
            · by_cases h9 : n < l
              · rw [if_pos h9, if_pos (show n < l + 1 by omega)]
              · rw [if_neg h9, if_neg (show ¬ n < l + 1 by omega)]
        exact key 8
      rw [e]
      exact ZT_bd hk h l t (by omega) ht
theorem PC_pr {code wt : Nat → Int} {g N : Nat} : ∀ k t : Nat, t < N → t < 256 → PC code g wt N k t ≤ Pr (fun _ => (k : Int)) t 8 := fun k => by
  induction k with
  | zero =>
    intro t ht _
    show (if t = 0 then (1 : Int) else 0) ≤ _
    by_cases e : t = 0
    · rw [if_pos e, e]; decide
    · rw [if_neg e]; exact Pr_nn (fun _ => Int.le_refl 0) 8
  | succ k ih =>
    intro t ht h8
    rw [PC_s]
    have nn : 0 ≤ Pr (fun _ => ((k + 1 : Nat) : Int)) t 8 := Pr_nn (fun _ => by omega) 8
    by_cases h : code t = wt k
    · rw [if_pos h]
      have h1 := ZT_bd (w := fun s => if s < 256 then PC code g wt N k s else 0) (g := g) (N := N) (k := (k : Int)) (by omega) (fun s hs => by
        show (if s < 256 then PC code g wt N k s else 0) ≤ _
        by_cases h9 : s < 256
        · rw [if_pos h9]; exact ih s hs h9
        · rw [if_neg h9]; exact Pr_nn (fun _ => by omega) 8) 8 t (by omega) ht
      have e1 : ZT (fun s => if s < 256 then PC code g wt N k s else 0) g N 8 t = ZT (PC code g wt N k) g N 8 t := Sm_cg (fun s _ => by
        by_cases h9 : CZ 8 g s t
        · have := CZ_le h9
          show iz _ * (if s < 256 then PC code g wt N k s else 0) = _
          rw [if_pos (by omega)]
        · rw [iz_n h9, Int.zero_mul, Int.zero_mul])
      have e2 : Pr (fun j => if j < 8 then (k : Int) + 1 else (k : Int)) t 8 = Pr (fun _ => ((k + 1 : Nat) : Int)) t 8 := Pr_cg 8 (fun j hj => by
        show (if j < 8 then (k : Int) + 1 else (k : Int)) = ((k + 1 : Nat) : Int)
        rw [if_pos hj]; omega) (fun _ _ => rfl)
      rw [e1, e2] at h1
      exact h1
    · rw [if_neg h]; exact nn
theorem PC_bd {code wt : Nat → Int} {g N k t : Nat} (hk : k ≤ 16) (ht : t < N) (h8 : t < 256) : 0 ≤ PC code g wt N k t ∧ PC code g wt N k t ≤ 4294967296 := by
  refine ⟨PC_nn k t, Int.le_trans (PC_pr k t ht h8) ?_⟩
  have h := Pr_le (c := fun _ => (k : Int)) (t := t) (m := 16) (fun j => ⟨by omega, by omega⟩) (by decide) 8
  exact Int.le_trans h (by decide)
/-! what is open -/
/-- bit j of the cells below N tells P j -/
def OPN (P : Nat → Nat → Prop) (N : Nat) (F : Nat → Int) : Prop := ∀ t, t < N → (0 ≤ F t ∧ F t < 131072) ∧ ∀ j, (F t).toNat.testBit j = true ↔ P j t
theorem OPN_cg {P Q : Nat → Nat → Prop} {N : Nat} {F : Nat → Int} (h : OPN P N F) (e : ∀ j t, t < N → (P j t ↔ Q j t)) : OPN Q N F := fun t ht => ⟨(h t ht).1, fun j => ((h t ht).2 j).trans (e j t ht)⟩
theorem i_or_b {v u : Int} (h0 : 0 ≤ v) (h1 : v < 131072) (h2 : 0 ≤ u) (h3 : u < 131072) : (0 ≤ i_or v u ∧ i_or v u < 131072) ∧ ∀ j, (i_or v u).toNat.testBit j = (v.toNat.testBit j || u.toNat.testBit j) := by
  have h := i_or_N (a := v.toNat) (b := u.toNat) (by omega) (by omega)
  rw [show ((v.toNat : Nat) : Int) = v by omega, show ((u.toNat : Nat) : Int) = u by omega] at h
  have h9 := Nat.or_lt_two_pow (n := 17) (x := v.toNat) (y := u.toNat) (by omega) (by omega)
  rw [h]
  refine ⟨⟨by omega, by omega⟩, fun j => ?_⟩
  rw [Int.toNat_natCast, Nat.testBit_or]
theorem i_mk_b {u : Int} {i : Nat} (h2 : 0 ≤ u) (h3 : u < 131072) : (0 ≤ i_and u ((2 ^ i : Nat) : Int) ∧ i_and u ((2 ^ i : Nat) : Int) < 131072) ∧ ∀ j, (i_and u ((2 ^ i : Nat) : Int)).toNat.testBit j = (u.toNat.testBit j && decide (i = j)) := by
  have h := i_and_N (a := u.toNat) (b := 2 ^ i) (by omega)
  rw [show ((u.toNat : Nat) : Int) = u by omega] at h
  have h9 : u.toNat &&& 2 ^ i ≤ u.toNat := Nat.and_le_left
  rw [h]
  refine ⟨⟨by omega, by omega⟩, fun j => ?_⟩
  rw [Int.toNat_natCast, Nat.testBit_and, Nat.testBit_two_pow]
theorem i_shr_N {a n : Nat} (ha : a < 2147483648) (hn : n < 31) : i_shr a n = ((a >>> n : Nat) : Int) := by
  have hk : ∀ n : Fin 31, ((Int32.ofInt (n.val : Int) &&& 31).toBitVec.smod 32).toNat = n.val := by decide +kernel
  have e := pk_shr (Int32.ofInt (a : Int)) (Int32.ofInt (n : Int) &&& 31) n (hk ⟨n, hn⟩)
  have e0 : (Int32.ofInt (a : Int)).toInt = (a : Int) := w32_id (by omega) (by omega)
  show (Int32.ofInt (a : Int) >>> (Int32.ofInt (n : Int) &&& 31)).toInt = _
  rw [e, e0]
  rfl
theorem i_sb {v : Int} {j : Nat} (h0 : 0 ≤ v) (h1 : v < 131072) (hj : j < 31) : (i_and (i_shr v j) 1 = 1 ↔ v.toNat.testBit j = true) := by
  have e1 : i_shr v j = ((v.toNat >>> j : Nat) : Int) := by
    have h := i_shr_N (a := v.toNat) (n := j) (by omega) hj
    rw [show ((v.toNat : Nat) : Int) = v by omega] at h
    exact h
  have h9 : v.toNat >>> j ≤ v.toNat := Nat.shiftRight_le _ _
  have e2 := i_and_N (a := v.toNat >>> j) (b := 1) (by omega)
  rw [e1]
  rw [show ((1 : Nat) : Int) = 1 from rfl] at e2
  rw [e2]
  rw [Nat.testBit_eq_decide_div_mod_eq, Nat.and_one_is_mod, Nat.shiftRight_eq_div_pow]
  simp only [decide_eq_true_eq]
  omega
/-- the places i and above tell where it goes on, at OIL L -/
def OPf (code : Nat → Int) (g : Nat) (wt oil : Nat → Int) (N w : Nat) (L : Int) (i j t : Nat) : Prop := (i ≤ j ∧ j ≤ w) ∧ 0 < NC code g wt oil N w (w - j) t L
/-- STATE t may be the i-th -/
def GG (code : Nat → Int) (g : Nat) (wt oil : Nat → Int) (N w : Nat) (L : Int) (i t : Nat) : Prop := code t = wt i ∧ 0 < NC code g wt oil N w (w - (i + 1)) t L
section
variable {code wt oil : Nat → Int} {g N w i : Nat} {L : Int} {F : Nat → Int}
/-- while place i is filled -/
def OQ (code : Nat → Int) (g : Nat) (wt oil : Nat → Int) (N w : Nat) (L : Int) (i : Nat) (E : Nat → Prop) (j t : Nat) : Prop := OPf code g wt oil N w L (i + 1) j t ∨ (j = i ∧ E t)
theorem OQ_lo {E : Nat → Prop} {t j : Nat} : OQ code g wt oil N w L i E j t → ¬ j = i → OPf code g wt oil N w L (i + 1) j t := fun h h2 => h.elim id (fun h9 => absurd h9.1 h2)
theorem OQ_i {E : Nat → Prop} {t : Nat} : OQ code g wt oil N w L i E i t ↔ E t := ⟨fun h => h.elim (fun h9 => absurd h9.1.1 (by omega)) (fun h9 => h9.2), fun h => Or.inr ⟨rfl, h⟩⟩
theorem OQ_j {E E' : Nat → Prop} {t j : Nat} (hj : ¬ j = i) : OQ code g wt oil N w L i E j t ↔ OQ code g wt oil N w L i E' j t := ⟨fun h => Or.inl (OQ_lo h hj), fun h => Or.inl (OQ_lo h hj)⟩
theorem OQ_cg {E E' : Nat → Prop} {t j : Nat} (h : E t ↔ E' t) : OQ code g wt oil N w L i E j t ↔ OQ code g wt oil N w L i E' j t := by
  by_cases hj : j = i
  · subst hj; rw [OQ_i, OQ_i]; exact h
  · exact OQ_j hj
/-- the start: at the end the OIL must be L -/
theorem OP_w (h : ∀ t, t < N → F t = if oil t = L then ((2 ^ w : Nat) : Int) else 0) (hw : w ≤ 16) : OPN (OPf code g wt oil N w L w) N F := by
  intro t ht
  have hp : (2 : Nat) ^ w ≤ 2 ^ 16 := Nat.pow_le_pow_right (by decide) hw
  have hp0 := Nat.two_pow_pos w
  rw [h t ht]
  by_cases e : oil t = L
  · rw [if_pos e]
    refine ⟨⟨by omega, by omega⟩, fun j => ?_⟩
    rw [Int.toNat_natCast, Nat.testBit_two_pow]
    simp only [decide_eq_true_eq]
    constructor
    · rintro rfl
      refine ⟨⟨Nat.le_refl _, Nat.le_refl _⟩, ?_⟩
      rw [Nat.sub_self]
      show 0 < (if oil t = L then (1 : Int) else 0)
      rw [if_pos e]; decide
    · intro h9; have := h9.1; omega
  · rw [if_neg e]
    refine ⟨⟨by decide, by decide⟩, fun j => ?_⟩
    constructor
    · intro h9; rw [show (0 : Int).toNat = 0 from rfl, Nat.zero_testBit] at h9; cases h9
    · intro h9
      have h8 := h9.2
      rw [show w - j = 0 by have := h9.1; omega] at h8
      have h7 : 0 < (if oil t = L then (1 : Int) else 0) := h8
      rw [if_neg e] at h7
      exact absurd h7 (by decide)
/-- place i: the STATES below q have their own mark -/
def Eq1 (G : Nat → Prop) (q t : Nat) : Prop := t < q ∧ G t
theorem OP_s (h : OPN (OPf code g wt oil N w L (i + 1)) N F) : OPN (OQ code g wt oil N w L i (Eq1 (GG code g wt oil N w L i) 0)) N F := OPN_cg h (fun j t _ => ⟨Or.inl, fun h9 => h9.elim id (fun h8 => absurd h8.2.1 (by omega))⟩)
theorem OP_y {G : Nat → Prop} {q : Nat} {m : Int} (h : OPN (OQ code g wt oil N w L i (Eq1 G q)) N F) (hq : q < N) (hg : G q) (hm : m = ((2 ^ i : Nat) : Int)) (hi : i < 17) : OPN (OQ code g wt oil N w L i (Eq1 G (q + 1))) N (up1 F q (i_or (F q) m)) := by
  have hp : (2 : Nat) ^ i ≤ 2 ^ 16 := Nat.pow_le_pow_right (by decide) (by omega)
  have hp0 := Nat.two_pow_pos i
  intro t ht
  by_cases e : t = q
  · subst e
    rw [up1_s]
    obtain ⟨⟨a0, a1⟩, a2⟩ := h t ht
    obtain ⟨b1, b2⟩ := i_or_b a0 a1 (u := m) (by omega) (by omega)
    refine ⟨b1, fun j => ?_⟩
    rw [b2 j, hm, Int.toNat_natCast, Nat.testBit_two_pow, Bool.or_eq_true, a2 j]
    simp only [decide_eq_true_eq]
    by_cases ej : j = i
    · subst ej
      rw [OQ_i, OQ_i]
      exact ⟨fun _ => ⟨by omega, hg⟩, fun _ => Or.inr rfl⟩
    · exact ⟨fun h9 => h9.elim (fun h8 => (OQ_j ej).mp h8) (fun h8 => absurd h8.symm ej), fun h9 => Or.inl ((OQ_j ej).mp h9)⟩
  · rw [up1_n _ _ e]
    refine ⟨(h t ht).1, fun j => ((h t ht).2 j).trans (OQ_cg ⟨fun h9 => ⟨by have := h9.1; omega, h9.2⟩, fun h9 => ⟨by have := h9.1; omega, h9.2⟩⟩)⟩
theorem OP_n {G : Nat → Prop} {q : Nat} (h : OPN (OQ code g wt oil N w L i (Eq1 G q)) N F) (hq : q < N) (hg : ¬ G q) : OPN (OQ code g wt oil N w L i (Eq1 G (q + 1))) N (up1 F q (i_or (F q) 0)) := by
  intro t ht
  by_cases e : t = q
  · subst e
    rw [up1_s]
    obtain ⟨⟨a0, a1⟩, a2⟩ := h t ht
    obtain ⟨b1, b2⟩ := i_or_b a0 a1 (u := 0) (by omega) (by omega)
    refine ⟨b1, fun j => ?_⟩
    rw [b2 j, show (0 : Int).toNat = 0 from rfl, Nat.zero_testBit, Bool.or_false, a2 j]
    exact OQ_cg ⟨fun h9 => absurd h9.1 (by omega), fun h9 => absurd h9.2 hg⟩
  · rw [up1_n _ _ e]
    refine ⟨(h t ht).1, fun j => ((h t ht).2 j).trans (OQ_cg ⟨fun h9 => ⟨by have := h9.1; omega, h9.2⟩, fun h9 => ⟨by have := h9.1; omega, h9.2⟩⟩)⟩
/-- from t by LAMPS below l to one of G -/
def El (g N l : Nat) (G : Nat → Prop) (t : Nat) : Prop := ∃ u : Nat, (u < N ∧ CZ l g t u) ∧ G u
theorem OP_l0 {G : Nat → Prop} {q : Nat} (h : OPN (OQ code g wt oil N w L i (Eq1 G q)) N F) (hq : N ≤ q) : OPN (OQ code g wt oil N w L i (El g N 0 G)) N F := OPN_cg h (fun j t ht => OQ_cg ⟨fun h9 => ⟨t, ⟨ht, CZ_0.mpr rfl⟩, h9.2⟩, fun ⟨u, h9, h8⟩ => ⟨by omega, by rw [CZ_0.mp h9.2]; exact h8⟩⟩)
/-- LAMP l: what lies above q is through -/
def Eu (g N l : Nat) (G : Nat → Prop) (q t : Nat) : Prop := ((t.testBit l = false ∧ t ^^^ 2 ^ l < q) ∧ El g N (l + 1) G t) ∨ El g N l G t
theorem El_m {l t : Nat} {G : Nat → Prop} (h : El g N l G t) : El g N (l + 1) G t := by
  obtain ⟨u, ⟨h1, h2⟩, h3⟩ := h
  exact ⟨u, ⟨h1, CZ_d.mpr (Or.inl h2)⟩, h3⟩
theorem OP_u0 {l : Nat} {G : Nat → Prop} (h : OPN (OQ code g wt oil N w L i (El g N l G)) N F) : OPN (OQ code g wt oil N w L i (Eu g N l G (2 ^ l))) N F := OPN_cg h (fun j t ht => OQ_cg ⟨Or.inr, fun h9 => h9.elim (fun h8 => absurd h8.1 (fun h7 => by
  have h6 : (t ^^^ 2 ^ l).testBit l = true := by rw [tb_xp, if_pos rfl, h7.1]; rfl
  have h5 := bt_sub.mpr h6
  have h4 : 2 ^ l &&& (t ^^^ 2 ^ l) ≤ t ^^^ 2 ^ l := Nat.and_le_right
  omega)) id⟩)
theorem xx_p {t l : Nat} : t ^^^ 2 ^ l ^^^ 2 ^ l = t := by rw [Nat.xor_assoc, Nat.xor_self, Nat.xor_zero]
theorem OP_ue {l q : Nat} {G : Nat → Prop} (h : OPN (OQ code g wt oil N w L i (Eu g N l G q)) N F) (hq : N ≤ q) (hN : ∀ t, t < N → t ^^^ 2 ^ l < N) : OPN (OQ code g wt oil N w L i (El g N (l + 1) G)) N F := OPN_cg h (fun j t ht => OQ_cg ⟨fun h9 => h9.elim (fun h8 => h8.2) El_m, fun h9 => by
  by_cases a : t.testBit l = false
  · exact Or.inl ⟨⟨a, by have := hN t ht; omega⟩, h9⟩
  · obtain ⟨u, ⟨h1, h2⟩, h3⟩ := h9
    exact Or.inr ⟨u, ⟨h1, (CZ_d.mp h2).elim id (fun h8 => absurd h8.1.1 a)⟩, h3⟩⟩)
theorem OP_br {l : Nat} {G : Nat → Prop} (h : OPN (OQ code g wt oil N w L i (El g N l G)) N F) (hg : ¬ g.testBit l = false) : OPN (OQ code g wt oil N w L i (El g N (l + 1) G)) N F := OPN_cg h (fun j t ht => OQ_cg ⟨El_m, fun ⟨u, ⟨h1, h2⟩, h3⟩ => ⟨u, ⟨h1, (CZ_d.mp h2).elim id (fun h8 => absurd h8.1.2 hg)⟩, h3⟩⟩)
theorem OP_st {l q q' x : Nat} {m : Int} {G : Nat → Prop} (h : OPN (OQ code g wt oil N w L i (Eu g N l G q)) N F) (hq : q < N) (hb : q.testBit l = true) (hg : g.testBit l = false) (hx : x = q ^^^ 2 ^ l) (h1 : q < q') (h2 : ∀ t, t.testBit l = true → q < t → q' ≤ t) (hm : m = ((2 ^ i : Nat) : Int)) : OPN (OQ code g wt oil N w L i (Eu g N l G q')) N (up1 F x (i_or (F x) (i_and (F q) m))) := by
  have hxl := xp_le hb
  have hxb : x.testBit l = false := by rw [hx, tb_xp, if_pos rfl, hb]; rfl
  have hxx : x ^^^ 2 ^ l = q := by rw [hx, xx_p]
  intro t ht
  by_cases e : t = x
  · subst e
    rw [up1_s]
    obtain ⟨⟨a0, a1⟩, a2⟩ := h t ht
    obtain ⟨⟨c0, c1⟩, c2⟩ := h q hq
    obtain ⟨⟨d0, d1⟩, d2⟩ := i_mk_b (i := i) c0 c1
    rw [← hm] at d0 d1 d2
    obtain ⟨b1, b2⟩ := i_or_b a0 a1 d0 d1
    refine ⟨b1, fun j => ?_⟩
    rw [b2 j, d2 j, Bool.or_eq_true, Bool.and_eq_true, a2 j, c2 j]
    simp only [decide_eq_true_eq]
    by_cases ej : j = i
    · subst ej
      rw [OQ_i, OQ_i, OQ_i]
      constructor
      · rintro (h9 | ⟨h9, -⟩)
        · exact Or.inl ⟨⟨hxb, by rw [hxx]; exact h1⟩, h9.elim (fun h8 => h8.2) El_m⟩
        · refine Or.inl ⟨⟨hxb, by rw [hxx]; exact h1⟩, ?_⟩
          rcases h9 with h8 | ⟨u, ⟨h7, h6⟩, h5⟩
          · rw [hb] at h8; exact absurd h8.1.1 (by decide)
          · exact ⟨u, ⟨h7, CZ_d.mpr (Or.inr ⟨⟨hxb, hg⟩, by rw [hxx]; exact h6⟩)⟩, h5⟩
      · rintro (⟨-, u, ⟨h7, h6⟩, h5⟩ | h9)
        · rcases CZ_d.mp h6 with h8 | ⟨-, h8⟩
          · exact Or.inl (Or.inr ⟨u, ⟨h7, h8⟩, h5⟩)
          · rw [hxx] at h8
            exact Or.inr ⟨Or.inr ⟨u, ⟨h7, h8⟩, h5⟩, rfl⟩
        · exact Or.inl (Or.inr h9)
    · exact ⟨fun h9 => h9.elim (fun h8 => (OQ_j ej).mp h8) (fun h8 => absurd h8.2.symm ej), fun h9 => Or.inl ((OQ_j ej).mp h9)⟩
  · rw [up1_n _ _ e]
    refine ⟨(h t ht).1, fun j => ((h t ht).2 j).trans (OQ_cg ?_)⟩
    have key : (t.testBit l = false ∧ t ^^^ 2 ^ l < q) ↔ (t.testBit l = false ∧ t ^^^ 2 ^ l < q') := by
      constructor
      · rintro ⟨h9, h8⟩; exact ⟨h9, by omega⟩
      · rintro ⟨h9, h8⟩
        refine ⟨h9, ?_⟩
        have h7 : (t ^^^ 2 ^ l).testBit l = true := by rw [tb_xp, if_pos rfl, h9]; rfl
        by_cases h6 : t ^^^ 2 ^ l < q
        · exact h6
        · by_cases h5 : t ^^^ 2 ^ l = q
          · exact absurd (by rw [hx, ← h5, xx_p]) e
          · have := h2 _ h7 (by omega); omega
    exact ⟨fun h9 => h9.imp (fun h8 => ⟨key.mp h8.1, h8.2⟩) id, fun h9 => h9.imp (fun h8 => ⟨key.mpr h8.1, h8.2⟩) id⟩
/-- all LAMPS through: place i is told -/
theorem OP_e {n : Nat} (hn : n ≤ 8) (h : OPN (OQ code g wt oil (2 ^ n) w L i (El g (2 ^ n) n (GG code g wt oil (2 ^ n) w L i))) (2 ^ n) F) (hi : i < w) : OPN (OPf code g wt oil (2 ^ n) w L i) (2 ^ n) F := OPN_cg h (fun j t ht => by
  by_cases ej : j = i
  · subst ej
    rw [OQ_i]
    constructor
    · rintro ⟨u, ⟨h1, h2⟩, h3, h4⟩
      refine ⟨⟨Nat.le_refl _, Nat.le_of_lt hi⟩, ?_⟩
      rw [show w - j = (w - (j + 1)) + 1 by omega]
      exact NC_in h1 ((CZ_n ht h1 hn).mp h2) (by rw [show w - (w - (j + 1) + 1) = j by omega]; exact h3) h4
    · rintro ⟨-, h9⟩
      rw [show w - j = (w - (j + 1)) + 1 by omega] at h9
      obtain ⟨u, h1, ⟨h2, h3⟩, h4⟩ := NC_pos h9
      rw [show w - (w - (j + 1) + 1) = j by omega] at h3
      exact ⟨u, ⟨h1, (CZ_n ht h1 hn).mpr h2⟩, h3, h4⟩
  · constructor
    · intro h9
      have h8 := OQ_lo h9 ej
      exact ⟨⟨by have := h8.1.1; omega, h8.1.2⟩, h8.2⟩
    · rintro ⟨⟨h1, h2⟩, h3⟩
      exact Or.inl ⟨⟨by omega, h2⟩, h3⟩)
end

theorem FU_N {n : Int} (h0 : 1 ≤ n) (h1 : n ≤ 8) : (FU n + 1).toNat = 2 ^ n.toNat := by
  rcases (show n = 1 ∨ n = 2 ∨ n = 3 ∨ n = 4 ∨ n = 5 ∨ n = 6 ∨ n = 7 ∨ n = 8 by omega) with rfl | rfl | rfl | rfl | rfl | rfl | rfl | rfl <;> decide +kernel
theorem i_shl16 {n : Int} (h0 : 0 ≤ n) (h1 : n ≤ 16) : i_shl 1 n = ((2 ^ n.toNat : Nat) : Int) := by
  rcases (show n = 0 ∨ n = 1 ∨ n = 2 ∨ n = 3 ∨ n = 4 ∨ n = 5 ∨ n = 6 ∨ n = 7 ∨ n = 8 ∨ n = 9 ∨ n = 10 ∨ n = 11 ∨ n = 12 ∨ n = 13 ∨ n = 14 ∨ n = 15 ∨ n = 16 by omega) with rfl | rfl | rfl | rfl | rfl | rfl | rfl | rfl | rfl | rfl | rfl | rfl | rfl | rfl | rfl | rfl | rfl <;> decide +kernel
theorem xor_c {t l : Nat} {to a : Int} (h0 : 0 ≤ to) (h1 : to < 2147483648) (ha : a = ((2 ^ l : Nat) : Int)) (ha1 : a ≤ 255) (ht : t = to.toNat) : (i_xor to a).toNat = t ^^^ 2 ^ l := by
  have h9 := i_xor_N (a := to.toNat) (b := 2 ^ l) (by omega) (by omega)
  rw [show ((to.toNat : Nat) : Int) = to by omega, ← ha] at h9
  rw [h9, ht]
  exact Int.toNat_natCast _
theorem l_min_v {a b : Int} (ha : -4611686018427387904 ≤ a) (ha2 : a < 4611686018427387904) (hb : -4611686018427387904 ≤ b) (hb2 : b < 4611686018427387904) : l_min a b = min b a := by
  unfold l_min
  rw [w64_id (by omega) (by omega), w64_id (by omega) (by omega)]
  split <;> omega
theorem xp_lt {n l t : Nat} (hl : l < n) (ht : t < 2 ^ n) : t ^^^ 2 ^ l < 2 ^ n := Nat.xor_lt_two_pow ht (Nat.pow_lt_pow_right (by decide) hl)
/-- what goesOn says -/
def GOB (x : Int) (code : Nat → Int) (w : Int) (F : Nat → Int) (a j : Nat) : Prop := x = 1 ↔ (code a = w ∧ (F a).toNat.testBit j = true)
theorem GOB_y {x w : Int} {code F : Nat → Int} {a j : Nat} (h : GOB x code w F a j) (hx : x = 1) : code a = w ∧ (F a).toNat.testBit j = true := h.mp hx
theorem GOB_n {x w : Int} {code F : Nat → Int} {a j : Nat} (h : GOB x code w F a j) (hx : ¬ x = 1) : ¬ (code a = w ∧ (F a).toNat.testBit j = true) := fun h9 => hx (h.mpr h9)
theorem OQ_b {code wt oil : Nat → Int} {g N w i q : Nat} {L : Int} {F : Nat → Int} {E : Nat → Prop} (h : OPN (OQ code g wt oil N w L i E) N F) (hq : q < N) (hi : i < w) : (F q).toNat.testBit (i + 1) = true ↔ 0 < NC code g wt oil N w (w - (i + 1)) q L :=
  ((h q hq).2 (i + 1)).trans ⟨fun h9 => (OQ_lo h9 (by omega)).2, fun h9 => Or.inl ⟨⟨by omega, by omega⟩, h9⟩⟩
theorem OPf_b {code wt oil : Nat → Int} {g N w i q : Nat} {L : Int} {F : Nat → Int} (h : OPN (OPf code g wt oil N w L 1) N F) (hq : q < N) (hi : i < w) : (F q).toNat.testBit (i + 1) = true ↔ 0 < NC code g wt oil N w (w - (i + 1)) q L :=
  ((h q hq).2 (i + 1)).trans ⟨fun h9 => h9.2, fun h9 => ⟨⟨by omega, by omega⟩, h9⟩⟩
/-- one STATE more of the first chain -/
theorem FC_s {code wt oil : Nat → Int} {g N w k : Nat} {L : Int} {F : Nat → Int} {t : Int} (h : FC code g wt oil N w L F k) (h0 : 0 ≤ t) (h1 : FS code g wt oil N w L k (if k = 0 then 0 else (F (k - 1)).toNat) t.toNat) : FC code g wt oil N w L (up1 F k t) (k + 1) := by
  intro i hi
  by_cases e : i = k
  · subst e
    rw [up1_s]
    refine ⟨h0, ?_⟩
    by_cases e0 : i = 0
    · rw [if_pos e0] at h1 ⊢; exact h1
    · rw [if_neg e0] at h1 ⊢; rw [up1_n _ _ (by omega)]; exact h1
  · rw [up1_n _ _ e]
    have h2 := h i (by omega)
    refine ⟨h2.1, ?_⟩
    by_cases e0 : i = 0
    · rw [if_pos e0]; rw [if_pos e0] at h2; exact h2.2
    · rw [if_neg e0]; rw [if_neg e0] at h2; rw [up1_n _ _ (by omega)]; exact h2.2
theorem FC_cg {code code' wt wt' oil oil' : Nat → Int} {g N w k : Nat} {L : Int} {F F' : Nat → Int} (hc : ∀ s, s < N → code s = code' s) (hw : ∀ k, k < w → wt k = wt' k) (ho : ∀ s, s < N → oil s = oil' s) (hk : k ≤ w) (hF : ∀ i, i < k → F i = F' i) (h : FC code g wt oil N w L F k) : FC code' g wt' oil' N w L F' k := fun i hi => by
  have h2 := h i hi
  rw [hF i hi] at h2
  refine ⟨h2.1, ?_⟩
  have h3 := FS_cg hc hw ho (by omega) h2.2
  by_cases e0 : i = 0
  · rw [if_pos e0] at h3 ⊢; exact h3
  · rw [if_neg e0] at h3 ⊢; rw [hF (i - 1) (by omega)] at h3; exact h3
/-- what is WANTED, solved: its OIL L, in m ways; by F -/
def ESo (code : Nat → Int) (g : Nat) (wt oil : Nat → Int) (N w : Nat) (L m : Int) (F : Nat → Int) : Prop := (∃ tg, CW (fun v => Sm (fun t => PC code g wt N w t * (if oil t = v then 1 else 0)) N) L tg ∧ m = min 1000000000 tg) ∧ (¬ L = -1 → FC code g wt oil N w L F w)
theorem ESo_cg {code wt wt' oil oil' code' : Nat → Int} {g N w : Nat} {L m : Int} {F : Nat → Int} (hc : ∀ s, s < N → code s = code' s) (hw : ∀ k, k < w → wt k = wt' k) (ho : ∀ s, s < N → oil s = oil' s) (h : ESo code g wt oil N w L m F) : ESo code' g wt' oil' N w L m F := by
  obtain ⟨⟨tg, h1, h2⟩, h3⟩ := h
  refine ⟨⟨tg, CW_cg h1 (fun v => Sm_cg (fun t ht => by rw [PC_cg hc hw w t (Nat.le_refl w) ht, ho t ht])), h2⟩, fun hL => FC_cg hc hw ho (Nat.le_refl w) (fun _ _ => rfl) (h3 hL)⟩
/-- the class's Errand is right where it is fresh -/
def wtC (I : aI1) (k : Nat) : Int := w32 (I 6 k)
def EK (I : aI1) : Prop := ¬ I 33 3 = 0 → ESo (I 3) (gN (I 1 7)) (wtC I) (fun s => oilS (I 2) s (I 1 5).toNat) (FU (I 1 5) + 1).toNat (I 1 11).toNat (I 33 1) (I 33 2) (I 34)
end
