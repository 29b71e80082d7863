set_option maxHeartbeats 4000000 in
set_option maxRecDepth 20000 in
theorem c5_X11_init (l0 : Launch) {Ia Ja : aI1} {Ra : aR1} (hR : ∀ q ∈ layR, q.1 < 49 → Ra q.1 q.2.1 = some q.2.2) (hI0 : ∀ j, Ia 49 j = 0)  : CT l0 1 23 27348 mX11_init [kR (some 49)] Ia Ja Ra (nS_X10 [(16, 0)] ++ [(17, 0)]) (dV (fun I' J' R' S' => LY R' S' ∧ RX I' ∧ (∀ k, k < 49 → I' k = Ia k ∧ J' k = Ja k ∧ R' k = Ra k) ∧ S'.length = 73 ∧ I' 53 = (fun _ => 0) ∧ I' 49 10 = 0 ∧ I' 49 6 = 0 ∧ I' 49 33 = 0 ∧ I' 51 304 = 3 ∧ I' 51 305 = 4 ∧ I' 51 306 = 0 ∧ I' 51 309 = 0 ∧ (∀ j : Nat, j < 8 → I' 51 (256 + j) = 1) ∧ (∀ j : Nat, j < 16 → I' 51 (288 + j) = 0))) := by
  refine ct_in pn_X11 (Nat.le_of_ble_eq_true rfl) (fun X hX hT hIn => ?_)
  have hX : aK l0 X cX11_init 2 RX11 none 1 23 27348 := hX
  change WW X 0 [some (kR (some 49)), none] [] Ia Ja Ra (nS_X10 [(16, 0)] ++ [(17, 0)]) 0 0
  refine ww_aload_n hX (pc := 0) dX11_init_0 rfl ?_
  refine ww_objInit hX (pc := 1) tb_1087 tb_27 tb_28 (by decide) (Nat.le_of_ble_eq_true rfl) dX11_init_1 ?_
  refine ww_aload_n hX (pc := 4) dX11_init_4 rfl ?_
  refine ww_bipush hX (pc := 5) (x := 7) dX11_init_5 (by decide) ?_
  refine ww_na_intz hX (pc := 7) (N := 7) (z := 50) rfl tb_103 rfl (by omega) (by omega) (by omega) dX11_init_7 ?_
  refine ww_putR hX (pc := 9) (fun _ => hIn rfl) gX11_7 (by decide) rfl dX11_init_9 ?_
  refine ww_aload_n hX (pc := 12) dX11_init_12 rfl ?_
  refine ww_sipush hX (pc := 13) (x := 5117) dX11_init_13 (by decide) ?_
  refine ww_na_intz hX (pc := 16) (N := 5117) (z := 51) rfl tb_103 rfl (by omega) (by omega) (by omega) dX11_init_16 ?_
  refine ww_putR hX (pc := 18) (fun _ => hIn rfl) gX11_20 (by decide) rfl dX11_init_18 ?_
  refine ww_aload_n hX (pc := 21) dX11_init_21 rfl ?_
  refine ww_sipush hX (pc := 22) (x := 10234) dX11_init_22 (by decide) ?_
  refine ww_na_intz hX (pc := 25) (N := 10234) (z := 52) rfl tb_103 rfl (by omega) (by omega) (by omega) dX11_init_25 ?_
  refine ww_putR hX (pc := 27) (fun _ => hIn rfl) gX11_23 (by decide) rfl dX11_init_27 ?_
  refine ww_aload_n hX (pc := 30) dX11_init_30 rfl ?_
  refine ww_iconst hX (pc := 31) (x := 2) dX11_init_31 rfl ?_
  refine ww_na_boolz hX (pc := 32) (N := 2) (z := 53) rfl tb_320 rfl (by omega) (by omega) (by omega) dX11_init_32 ?_
  refine ww_putR hX (pc := 34) (fun _ => hIn rfl) gX11_26 (by decide) rfl dX11_init_34 ?_
  refine ww_aload_n hX (pc := 37) dX11_init_37 rfl ?_
  refine ww_bipush hX (pc := 38) (x := 60) dX11_init_38 (by decide) ?_
  refine ww_na_bytez hX (pc := 40) (N := 60) (z := 54) rfl tb_681 rfl (by omega) (by omega) (by omega) dX11_init_40 ?_
  refine ww_dupR hX (pc := 42) dX11_init_42 ?_
  refine ww_iconst hX (pc := 43) (x := 0) dX11_init_43 rfl ?_
  refine ww_bipush hX (pc := 44) (x := 114) dX11_init_44 (by decide) ?_
  refine ww_bast hX (pc := 46) rfl (by decide) (by omega) (by omega) dX11_init_46 ?_
  refine ww_dupR hX (pc := 47) dX11_init_47 ?_
  refine ww_iconst hX (pc := 48) (x := 1) dX11_init_48 rfl ?_
  refine ww_bipush hX (pc := 49) (x := 101) dX11_init_49 (by decide) ?_
  refine ww_bast hX (pc := 51) rfl (by decide) (by omega) (by omega) dX11_init_51 ?_
  refine ww_dupR hX (pc := 52) dX11_init_52 ?_
  refine ww_iconst hX (pc := 53) (x := 2) dX11_init_53 rfl ?_
  refine ww_bipush hX (pc := 54) (x := 97) dX11_init_54 (by decide) ?_
  refine ww_bast hX (pc := 56) rfl (by decide) (by omega) (by omega) dX11_init_56 ?_
  refine ww_dupR hX (pc := 57) dX11_init_57 ?_
  refine ww_iconst hX (pc := 58) (x := 3) dX11_init_58 rfl ?_
  refine ww_bipush hX (pc := 59) (x := 100) dX11_init_59 (by decide) ?_
  refine ww_bast hX (pc := 61) rfl (by decide) (by omega) (by omega) dX11_init_61 ?_
  refine ww_dupR hX (pc := 62) dX11_init_62 ?_
  refine ww_iconst hX (pc := 63) (x := 4) dX11_init_63 rfl ?_
  refine ww_bipush hX (pc := 64) (x := 115) dX11_init_64 (by decide) ?_
  refine ww_bast hX (pc := 66) rfl (by decide) (by omega) (by omega) dX11_init_66 ?_
  refine ww_dupR hX (pc := 67) dX11_init_67 ?_
  refine ww_iconst hX (pc := 68) (x := 5) dX11_init_68 rfl ?_
  refine ww_bipush hX (pc := 69) (x := 32) dX11_init_69 (by decide) ?_
  refine ww_bast hX (pc := 71) rfl (by decide) (by omega) (by omega) dX11_init_71 ?_
  refine ww_dupR hX (pc := 72) dX11_init_72 ?_
  refine ww_bipush hX (pc := 73) (x := 6) dX11_init_73 (by decide) ?_
  refine ww_bipush hX (pc := 75) (x := 105) dX11_init_75 (by decide) ?_
  refine ww_bast hX (pc := 77) rfl (by decide) (by omega) (by omega) dX11_init_77 ?_
  refine ww_dupR hX (pc := 78) dX11_init_78 ?_
  refine ww_bipush hX (pc := 79) (x := 7) dX11_init_79 (by decide) ?_
  refine ww_bipush hX (pc := 81) (x := 102) dX11_init_81 (by decide) ?_
  refine ww_bast hX (pc := 83) rfl (by decide) (by omega) (by omega) dX11_init_83 ?_
  refine ww_dupR hX (pc := 84) dX11_init_84 ?_
  refine ww_bipush hX (pc := 85) (x := 8) dX11_init_85 (by decide) ?_
  refine ww_bipush hX (pc := 87) (x := 32) dX11_init_87 (by decide) ?_
  refine ww_bast hX (pc := 89) rfl (by decide) (by omega) (by omega) dX11_init_89 ?_
  refine ww_dupR hX (pc := 90) dX11_init_90 ?_
  refine ww_bipush hX (pc := 91) (x := 9) dX11_init_91 (by decide) ?_
  refine ww_bipush hX (pc := 93) (x := 111) dX11_init_93 (by decide) ?_
  refine ww_bast hX (pc := 95) rfl (by decide) (by omega) (by omega) dX11_init_95 ?_
  refine ww_dupR hX (pc := 96) dX11_init_96 ?_
  refine ww_bipush hX (pc := 97) (x := 10) dX11_init_97 (by decide) ?_
  refine ww_bipush hX (pc := 99) (x := 114) dX11_init_99 (by decide) ?_
  refine ww_bast hX (pc := 101) rfl (by decide) (by omega) (by omega) dX11_init_101 ?_
  refine ww_dupR hX (pc := 102) dX11_init_102 ?_
  refine ww_bipush hX (pc := 103) (x := 11) dX11_init_103 (by decide) ?_
  refine ww_bipush hX (pc := 105) (x := 32) dX11_init_105 (by decide) ?_
  refine ww_bast hX (pc := 107) rfl (by decide) (by omega) (by omega) dX11_init_107 ?_
  refine ww_dupR hX (pc := 108) dX11_init_108 ?_
  refine ww_bipush hX (pc := 109) (x := 12) dX11_init_109 (by decide) ?_
  refine ww_bipush hX (pc := 111) (x := 97) dX11_init_111 (by decide) ?_
  refine ww_bast hX (pc := 113) rfl (by decide) (by omega) (by omega) dX11_init_113 ?_
  refine ww_dupR hX (pc := 114) dX11_init_114 ?_
  refine ww_bipush hX (pc := 115) (x := 13) dX11_init_115 (by decide) ?_
  refine ww_bipush hX (pc := 117) (x := 110) dX11_init_117 (by decide) ?_
  refine ww_bast hX (pc := 119) rfl (by decide) (by omega) (by omega) dX11_init_119 ?_
  refine ww_dupR hX (pc := 120) dX11_init_120 ?_
  refine ww_bipush hX (pc := 121) (x := 14) dX11_init_121 (by decide) ?_
  refine ww_bipush hX (pc := 123) (x := 100) dX11_init_123 (by decide) ?_
  refine ww_bast hX (pc := 125) rfl (by decide) (by omega) (by omega) dX11_init_125 ?_
  refine ww_dupR hX (pc := 126) dX11_init_126 ?_
  refine ww_bipush hX (pc := 127) (x := 15) dX11_init_127 (by decide) ?_
  refine ww_bipush hX (pc := 129) (x := 32) dX11_init_129 (by decide) ?_
  refine ww_bast hX (pc := 131) rfl (by decide) (by omega) (by omega) dX11_init_131 ?_
  refine ww_dupR hX (pc := 132) dX11_init_132 ?_
  refine ww_bipush hX (pc := 133) (x := 16) dX11_init_133 (by decide) ?_
  refine ww_bipush hX (pc := 135) (x := 110) dX11_init_135 (by decide) ?_
  refine ww_bast hX (pc := 137) rfl (by decide) (by omega) (by omega) dX11_init_137 ?_
  refine ww_dupR hX (pc := 138) dX11_init_138 ?_
  refine ww_bipush hX (pc := 139) (x := 17) dX11_init_139 (by decide) ?_
  refine ww_bipush hX (pc := 141) (x := 111) dX11_init_141 (by decide) ?_
  refine ww_bast hX (pc := 143) rfl (by decide) (by omega) (by omega) dX11_init_143 ?_
  refine ww_dupR hX (pc := 144) dX11_init_144 ?_
  refine ww_bipush hX (pc := 145) (x := 18) dX11_init_145 (by decide) ?_
  refine ww_bipush hX (pc := 147) (x := 116) dX11_init_147 (by decide) ?_
  refine ww_bast hX (pc := 149) rfl (by decide) (by omega) (by omega) dX11_init_149 ?_
  refine ww_dupR hX (pc := 150) dX11_init_150 ?_
  refine ww_bipush hX (pc := 151) (x := 19) dX11_init_151 (by decide) ?_
  refine ww_bipush hX (pc := 153) (x := 32) dX11_init_153 (by decide) ?_
  refine ww_bast hX (pc := 155) rfl (by decide) (by omega) (by omega) dX11_init_155 ?_
  refine ww_dupR hX (pc := 156) dX11_init_156 ?_
  refine ww_bipush hX (pc := 157) (x := 20) dX11_init_157 (by decide) ?_
  refine ww_bipush hX (pc := 159) (x := 115) dX11_init_159 (by decide) ?_
  refine ww_bast hX (pc := 161) rfl (by decide) (by omega) (by omega) dX11_init_161 ?_
  refine ww_dupR hX (pc := 162) dX11_init_162 ?_
  refine ww_bipush hX (pc := 163) (x := 21) dX11_init_163 (by decide) ?_
  refine ww_bipush hX (pc := 165) (x := 116) dX11_init_165 (by decide) ?_
  refine ww_bast hX (pc := 167) rfl (by decide) (by omega) (by omega) dX11_init_167 ?_
  refine ww_dupR hX (pc := 168) dX11_init_168 ?_
  refine ww_bipush hX (pc := 169) (x := 22) dX11_init_169 (by decide) ?_
  refine ww_bipush hX (pc := 171) (x := 97) dX11_init_171 (by decide) ?_
  refine ww_bast hX (pc := 173) rfl (by decide) (by omega) (by omega) dX11_init_173 ?_
  refine ww_dupR hX (pc := 174) dX11_init_174 ?_
  refine ww_bipush hX (pc := 175) (x := 23) dX11_init_175 (by decide) ?_
  refine ww_bipush hX (pc := 177) (x := 116) dX11_init_177 (by decide) ?_
  refine ww_bast hX (pc := 179) rfl (by decide) (by omega) (by omega) dX11_init_179 ?_
  refine ww_dupR hX (pc := 180) dX11_init_180 ?_
  refine ww_bipush hX (pc := 181) (x := 24) dX11_init_181 (by decide) ?_
  refine ww_bipush hX (pc := 183) (x := 101) dX11_init_183 (by decide) ?_
  refine ww_bast hX (pc := 185) rfl (by decide) (by omega) (by omega) dX11_init_185 ?_
  refine ww_dupR hX (pc := 186) dX11_init_186 ?_
  refine ww_bipush hX (pc := 187) (x := 25) dX11_init_187 (by decide) ?_
  refine ww_bipush hX (pc := 189) (x := 32) dX11_init_189 (by decide) ?_
  refine ww_bast hX (pc := 191) rfl (by decide) (by omega) (by omega) dX11_init_191 ?_
  refine ww_dupR hX (pc := 192) dX11_init_192 ?_
  refine ww_bipush hX (pc := 193) (x := 26) dX11_init_193 (by decide) ?_
  refine ww_bipush hX (pc := 195) (x := 108) dX11_init_195 (by decide) ?_
  refine ww_bast hX (pc := 197) rfl (by decide) (by omega) (by omega) dX11_init_197 ?_
  refine ww_dupR hX (pc := 198) dX11_init_198 ?_
  refine ww_bipush hX (pc := 199) (x := 27) dX11_init_199 (by decide) ?_
  refine ww_bipush hX (pc := 201) (x := 105) dX11_init_201 (by decide) ?_
  refine ww_bast hX (pc := 203) rfl (by decide) (by omega) (by omega) dX11_init_203 ?_
  refine ww_dupR hX (pc := 204) dX11_init_204 ?_
  refine ww_bipush hX (pc := 205) (x := 28) dX11_init_205 (by decide) ?_
  refine ww_bipush hX (pc := 207) (x := 116) dX11_init_207 (by decide) ?_
  refine ww_bast hX (pc := 209) rfl (by decide) (by omega) (by omega) dX11_init_209 ?_
  refine ww_dupR hX (pc := 210) dX11_init_210 ?_
  refine ww_bipush hX (pc := 211) (x := 29) dX11_init_211 (by decide) ?_
  refine ww_bipush hX (pc := 213) (x := 32) dX11_init_213 (by decide) ?_
  refine ww_bast hX (pc := 215) rfl (by decide) (by omega) (by omega) dX11_init_215 ?_
  refine ww_dupR hX (pc := 216) dX11_init_216 ?_
  refine ww_bipush hX (pc := 217) (x := 30) dX11_init_217 (by decide) ?_
  refine ww_bipush hX (pc := 219) (x := 115) dX11_init_219 (by decide) ?_
  refine ww_bast hX (pc := 221) rfl (by decide) (by omega) (by omega) dX11_init_221 ?_
  refine ww_dupR hX (pc := 222) dX11_init_222 ?_
  refine ww_bipush hX (pc := 223) (x := 31) dX11_init_223 (by decide) ?_
  refine ww_bipush hX (pc := 225) (x := 117) dX11_init_225 (by decide) ?_
  refine ww_bast hX (pc := 227) rfl (by decide) (by omega) (by omega) dX11_init_227 ?_
  refine ww_dupR hX (pc := 228) dX11_init_228 ?_
  refine ww_bipush hX (pc := 229) (x := 32) dX11_init_229 (by decide) ?_
  refine ww_bipush hX (pc := 231) (x := 109) dX11_init_231 (by decide) ?_
  refine ww_bast hX (pc := 233) rfl (by decide) (by omega) (by omega) dX11_init_233 ?_
  refine ww_dupR hX (pc := 234) dX11_init_234 ?_
  refine ww_bipush hX (pc := 235) (x := 33) dX11_init_235 (by decide) ?_
  refine ww_bipush hX (pc := 237) (x := 32) dX11_init_237 (by decide) ?_
  refine ww_bast hX (pc := 239) rfl (by decide) (by omega) (by omega) dX11_init_239 ?_
  refine ww_dupR hX (pc := 240) dX11_init_240 ?_
  refine ww_bipush hX (pc := 241) (x := 34) dX11_init_241 (by decide) ?_
  refine ww_bipush hX (pc := 243) (x := 109) dX11_init_243 (by decide) ?_
  refine ww_bast hX (pc := 245) rfl (by decide) (by omega) (by omega) dX11_init_245 ?_
  refine ww_dupR hX (pc := 246) dX11_init_246 ?_
  refine ww_bipush hX (pc := 247) (x := 35) dX11_init_247 (by decide) ?_
  refine ww_bipush hX (pc := 249) (x := 105) dX11_init_249 (by decide) ?_
  refine ww_bast hX (pc := 251) rfl (by decide) (by omega) (by omega) dX11_init_251 ?_
  refine ww_dupR hX (pc := 252) dX11_init_252 ?_
  refine ww_bipush hX (pc := 253) (x := 36) dX11_init_253 (by decide) ?_
  refine ww_bipush hX (pc := 255) (x := 120) dX11_init_255 (by decide) ?_
  refine ww_bast hX (pc := 257) rfl (by decide) (by omega) (by omega) dX11_init_257 ?_
  refine ww_dupR hX (pc := 258) dX11_init_258 ?_
  refine ww_bipush hX (pc := 259) (x := 37) dX11_init_259 (by decide) ?_
  refine ww_bipush hX (pc := 261) (x := 32) dX11_init_261 (by decide) ?_
  refine ww_bast hX (pc := 263) rfl (by decide) (by omega) (by omega) dX11_init_263 ?_
  refine ww_dupR hX (pc := 264) dX11_init_264 ?_
  refine ww_bipush hX (pc := 265) (x := 38) dX11_init_265 (by decide) ?_
  refine ww_bipush hX (pc := 267) (x := 102) dX11_init_267 (by decide) ?_
  refine ww_bast hX (pc := 269) rfl (by decide) (by omega) (by omega) dX11_init_269 ?_
  refine ww_dupR hX (pc := 270) dX11_init_270 ?_
  refine ww_bipush hX (pc := 271) (x := 39) dX11_init_271 (by decide) ?_
  refine ww_bipush hX (pc := 273) (x := 105) dX11_init_273 (by decide) ?_
  refine ww_bast hX (pc := 275) rfl (by decide) (by omega) (by omega) dX11_init_275 ?_
  refine ww_dupR hX (pc := 276) dX11_init_276 ?_
  refine ww_bipush hX (pc := 277) (x := 40) dX11_init_277 (by decide) ?_
  refine ww_bipush hX (pc := 279) (x := 114) dX11_init_279 (by decide) ?_
  refine ww_bast hX (pc := 281) rfl (by decide) (by omega) (by omega) dX11_init_281 ?_
  refine ww_dupR hX (pc := 282) dX11_init_282 ?_
  refine ww_bipush hX (pc := 283) (x := 41) dX11_init_283 (by decide) ?_
  refine ww_bipush hX (pc := 285) (x := 115) dX11_init_285 (by decide) ?_
  refine ww_bast hX (pc := 287) rfl (by decide) (by omega) (by omega) dX11_init_287 ?_
  refine ww_dupR hX (pc := 288) dX11_init_288 ?_
  refine ww_bipush hX (pc := 289) (x := 42) dX11_init_289 (by decide) ?_
  refine ww_bipush hX (pc := 291) (x := 116) dX11_init_291 (by decide) ?_
  refine ww_bast hX (pc := 293) rfl (by decide) (by omega) (by omega) dX11_init_293 ?_
  refine ww_dupR hX (pc := 294) dX11_init_294 ?_
  refine ww_bipush hX (pc := 295) (x := 43) dX11_init_295 (by decide) ?_
  refine ww_bipush hX (pc := 297) (x := 32) dX11_init_297 (by decide) ?_
  refine ww_bast hX (pc := 299) rfl (by decide) (by omega) (by omega) dX11_init_299 ?_
  refine ww_dupR hX (pc := 300) dX11_init_300 ?_
  refine ww_bipush hX (pc := 301) (x := 44) dX11_init_301 (by decide) ?_
  refine ww_bipush hX (pc := 303) (x := 108) dX11_init_303 (by decide) ?_
  refine ww_bast hX (pc := 305) rfl (by decide) (by omega) (by omega) dX11_init_305 ?_
  refine ww_dupR hX (pc := 306) dX11_init_306 ?_
  refine ww_bipush hX (pc := 307) (x := 45) dX11_init_307 (by decide) ?_
  refine ww_bipush hX (pc := 309) (x := 97) dX11_init_309 (by decide) ?_
  refine ww_bast hX (pc := 311) rfl (by decide) (by omega) (by omega) dX11_init_311 ?_
  refine ww_dupR hX (pc := 312) dX11_init_312 ?_
  refine ww_bipush hX (pc := 313) (x := 46) dX11_init_313 (by decide) ?_
  refine ww_bipush hX (pc := 315) (x := 115) dX11_init_315 (by decide) ?_
  refine ww_bast hX (pc := 317) rfl (by decide) (by omega) (by omega) dX11_init_317 ?_
  refine ww_dupR hX (pc := 318) dX11_init_318 ?_
  refine ww_bipush hX (pc := 319) (x := 47) dX11_init_319 (by decide) ?_
  refine ww_bipush hX (pc := 321) (x := 116) dX11_init_321 (by decide) ?_
  refine ww_bast hX (pc := 323) rfl (by decide) (by omega) (by omega) dX11_init_323 ?_
  refine ww_dupR hX (pc := 324) dX11_init_324 ?_
  refine ww_bipush hX (pc := 325) (x := 48) dX11_init_325 (by decide) ?_
  refine ww_bipush hX (pc := 327) (x := 32) dX11_init_327 (by decide) ?_
  refine ww_bast hX (pc := 329) rfl (by decide) (by omega) (by omega) dX11_init_329 ?_
  refine ww_dupR hX (pc := 330) dX11_init_330 ?_
  refine ww_bipush hX (pc := 331) (x := 49) dX11_init_331 (by decide) ?_
  refine ww_bipush hX (pc := 333) (x := 108) dX11_init_333 (by decide) ?_
  refine ww_bast hX (pc := 335) rfl (by decide) (by omega) (by omega) dX11_init_335 ?_
  refine ww_dupR hX (pc := 336) dX11_init_336 ?_
  refine ww_bipush hX (pc := 337) (x := 50) dX11_init_337 (by decide) ?_
  refine ww_bipush hX (pc := 339) (x := 97) dX11_init_339 (by decide) ?_
  refine ww_bast hX (pc := 341) rfl (by decide) (by omega) (by omega) dX11_init_341 ?_
  refine ww_dupR hX (pc := 342) dX11_init_342 ?_
  refine ww_bipush hX (pc := 343) (x := 51) dX11_init_343 (by decide) ?_
  refine ww_bipush hX (pc := 345) (x := 109) dX11_init_345 (by decide) ?_
  refine ww_bast hX (pc := 347) rfl (by decide) (by omega) (by omega) dX11_init_347 ?_
  refine ww_dupR hX (pc := 348) dX11_init_348 ?_
  refine ww_bipush hX (pc := 349) (x := 52) dX11_init_349 (by decide) ?_
  refine ww_bipush hX (pc := 351) (x := 112) dX11_init_351 (by decide) ?_
  refine ww_bast hX (pc := 353) rfl (by decide) (by omega) (by omega) dX11_init_353 ?_
  refine ww_dupR hX (pc := 354) dX11_init_354 ?_
  refine ww_bipush hX (pc := 355) (x := 53) dX11_init_355 (by decide) ?_
  refine ww_bipush hX (pc := 357) (x := 115) dX11_init_357 (by decide) ?_
  refine ww_bast hX (pc := 359) rfl (by decide) (by omega) (by omega) dX11_init_359 ?_
  refine ww_dupR hX (pc := 360) dX11_init_360 ?_
  refine ww_bipush hX (pc := 361) (x := 54) dX11_init_361 (by decide) ?_
  refine ww_bipush hX (pc := 363) (x := 32) dX11_init_363 (by decide) ?_
  refine ww_bast hX (pc := 365) rfl (by decide) (by omega) (by omega) dX11_init_365 ?_
  refine ww_dupR hX (pc := 366) dX11_init_366 ?_
  refine ww_bipush hX (pc := 367) (x := 55) dX11_init_367 (by decide) ?_
  refine ww_bipush hX (pc := 369) (x := 110) dX11_init_369 (by decide) ?_
  refine ww_bast hX (pc := 371) rfl (by decide) (by omega) (by omega) dX11_init_371 ?_
  refine ww_dupR hX (pc := 372) dX11_init_372 ?_
  refine ww_bipush hX (pc := 373) (x := 56) dX11_init_373 (by decide) ?_
  refine ww_bipush hX (pc := 375) (x := 101) dX11_init_375 (by decide) ?_
  refine ww_bast hX (pc := 377) rfl (by decide) (by omega) (by omega) dX11_init_377 ?_
  refine ww_dupR hX (pc := 378) dX11_init_378 ?_
  refine ww_bipush hX (pc := 379) (x := 57) dX11_init_379 (by decide) ?_
  refine ww_bipush hX (pc := 381) (x := 119) dX11_init_381 (by decide) ?_
  refine ww_bast hX (pc := 383) rfl (by decide) (by omega) (by omega) dX11_init_383 ?_
  refine ww_dupR hX (pc := 384) dX11_init_384 ?_
  refine ww_bipush hX (pc := 385) (x := 58) dX11_init_385 (by decide) ?_
  refine ww_bipush hX (pc := 387) (x := 115) dX11_init_387 (by decide) ?_
  refine ww_bast hX (pc := 389) rfl (by decide) (by omega) (by omega) dX11_init_389 ?_
  refine ww_dupR hX (pc := 390) dX11_init_390 ?_
  refine ww_bipush hX (pc := 391) (x := 59) dX11_init_391 (by decide) ?_
  refine ww_bipush hX (pc := 393) (x := 32) dX11_init_393 (by decide) ?_
  refine ww_bast hX (pc := 395) rfl (by decide) (by omega) (by omega) dX11_init_395 ?_
  refine ww_putR hX (pc := 396) (fun _ => hIn rfl) gX11_30 (by decide) rfl dX11_init_396 ?_
  refine ww_aload_n hX (pc := 399) dX11_init_399 rfl ?_
  refine ww_sipush hX (pc := 400) (x := 400) dX11_init_400 (by decide) ?_
  refine ww_na_bytez hX (pc := 403) (N := 400) (z := 55) rfl tb_681 rfl (by omega) (by omega) (by omega) dX11_init_403 ?_
  refine ww_putR hX (pc := 405) (fun _ => hIn rfl) gX11_34 (by decide) rfl dX11_init_405 ?_
  refine ww_aload_n hX (pc := 408) dX11_init_408 rfl ?_
  refine ww_iconst hX (pc := 409) (x := 5) dX11_init_409 rfl ?_
  refine ww_na_intz hX (pc := 410) (N := 5) (z := 56) rfl tb_103 rfl (by omega) (by omega) (by omega) dX11_init_410 ?_
  refine ww_putR hX (pc := 412) (fun _ => hIn rfl) gX11_37 (by decide) rfl dX11_init_412 ?_
  refine ww_aload_n hX (pc := 415) dX11_init_415 rfl ?_
  refine ww_iconst hX (pc := 416) (x := (-1)) dX11_init_416 rfl ?_
  refine ww_putI hX (pc := 417) (fun h9 => absurd h9 (by decide)) gX11_40 rfl rfl dX11_init_417 ?_
  refine ww_aload_n hX (pc := 420) dX11_init_420 rfl ?_
  refine ww_sipush hX (pc := 421) (x := 401) dX11_init_421 (by decide) ?_
  refine ww_na_intz hX (pc := 424) (N := 401) (z := 57) rfl tb_103 rfl (by omega) (by omega) (by omega) dX11_init_424 ?_
  refine ww_putR hX (pc := 426) (fun _ => hIn rfl) gX11_43 (by decide) rfl dX11_init_426 ?_
  refine ww_aload_n hX (pc := 429) dX11_init_429 rfl ?_
  refine ww_sipush hX (pc := 430) (x := 401) dX11_init_430 (by decide) ?_
  refine ww_na_intz hX (pc := 433) (N := 401) (z := 58) rfl tb_103 rfl (by omega) (by omega) (by omega) dX11_init_433 ?_
  refine ww_putR hX (pc := 435) (fun _ => hIn rfl) gX11_46 (by decide) rfl dX11_init_435 ?_
  refine ww_aload_n hX (pc := 438) dX11_init_438 rfl ?_
  refine ww_sipush hX (pc := 439) (x := 401) dX11_init_439 (by decide) ?_
  refine ww_na_intz hX (pc := 442) (N := 401) (z := 59) rfl tb_103 rfl (by omega) (by omega) (by omega) dX11_init_442 ?_
  refine ww_putR hX (pc := 444) (fun _ => hIn rfl) gX11_49 (by decide) rfl dX11_init_444 ?_
  refine ww_aload_n hX (pc := 447) dX11_init_447 rfl ?_
  refine ww_bipush hX (pc := 448) (x := 8) dX11_init_448 (by decide) ?_
  refine ww_na_intz hX (pc := 450) (N := 8) (z := 60) rfl tb_103 rfl (by omega) (by omega) (by omega) dX11_init_450 ?_
  refine ww_putR hX (pc := 452) (fun _ => hIn rfl) gX11_52 (by decide) rfl dX11_init_452 ?_
  refine ww_aload_n hX (pc := 455) dX11_init_455 rfl ?_
  refine ww_sipush hX (pc := 456) (x := 256) dX11_init_456 (by decide) ?_
  refine ww_na_intz hX (pc := 459) (N := 256) (z := 61) rfl tb_103 rfl (by omega) (by omega) (by omega) dX11_init_459 ?_
  refine ww_putR hX (pc := 461) (fun _ => hIn rfl) gX11_55 (by decide) rfl dX11_init_461 ?_
  refine ww_aload_n hX (pc := 464) dX11_init_464 rfl ?_
  refine ww_sipush hX (pc := 465) (x := 256) dX11_init_465 (by decide) ?_
  refine ww_na_longz hX (pc := 468) (N := 256) (z := 62) rfl tb_177 rfl (by omega) (by omega) (by omega) dX11_init_468 ?_
  refine ww_putR hX (pc := 470) (fun _ => hIn rfl) gX11_58 (by decide) rfl dX11_init_470 ?_
  refine ww_aload_n hX (pc := 473) dX11_init_473 rfl ?_
  refine ww_iconst hX (pc := 474) (x := (-1)) dX11_init_474 rfl ?_
  refine ww_putI hX (pc := 475) (fun h9 => absurd h9 (by decide)) gX11_62 rfl rfl dX11_init_475 ?_
  refine ww_aload_n hX (pc := 478) dX11_init_478 rfl ?_
  refine ww_sipush hX (pc := 479) (x := 256) dX11_init_479 (by decide) ?_
  refine ww_na_boolz hX (pc := 482) (N := 256) (z := 63) rfl tb_320 rfl (by omega) (by omega) (by omega) dX11_init_482 ?_
  refine ww_putR hX (pc := 484) (fun _ => hIn rfl) gX11_65 (by decide) rfl dX11_init_484 ?_
  refine ww_aload_n hX (pc := 487) dX11_init_487 rfl ?_
  refine ww_bipush hX (pc := 488) (x := 10) dX11_init_488 (by decide) ?_
  refine ww_na_intz hX (pc := 490) (N := 10) (z := 64) rfl tb_103 rfl (by omega) (by omega) (by omega) dX11_init_490 ?_
  refine ww_putR hX (pc := 492) (fun _ => hIn rfl) gX11_68 (by decide) rfl dX11_init_492 ?_
  refine ww_aload_n hX (pc := 495) dX11_init_495 rfl ?_
  refine ww_sipush hX (pc := 496) (x := 256) dX11_init_496 (by decide) ?_
  refine ww_na_intz hX (pc := 499) (N := 256) (z := 65) rfl tb_103 rfl (by omega) (by omega) (by omega) dX11_init_499 ?_
  refine ww_putR hX (pc := 501) (fun _ => hIn rfl) gX11_71 (by decide) rfl dX11_init_501 ?_
  refine ww_aload_n hX (pc := 504) dX11_init_504 rfl ?_
  refine ww_bipush hX (pc := 505) (x := 8) dX11_init_505 (by decide) ?_
  refine ww_na_intz hX (pc := 507) (N := 8) (z := 66) rfl tb_103 rfl (by omega) (by omega) (by omega) dX11_init_507 ?_
  refine ww_putR hX (pc := 509) (fun _ => hIn rfl) gX11_74 (by decide) rfl dX11_init_509 ?_
  refine ww_aload_n hX (pc := 512) dX11_init_512 rfl ?_
  refine ww_bipush hX (pc := 513) (x := 30) dX11_init_513 (by decide) ?_
  refine ww_na_intz hX (pc := 515) (N := 30) (z := 67) rfl tb_103 rfl (by omega) (by omega) (by omega) dX11_init_515 ?_
  refine ww_putR hX (pc := 517) (fun _ => hIn rfl) gX11_77 (by decide) rfl dX11_init_517 ?_
  refine ww_aload_n hX (pc := 520) dX11_init_520 rfl ?_
  refine ww_sipush hX (pc := 521) (x := 256) dX11_init_521 (by decide) ?_
  refine ww_na_longz hX (pc := 524) (N := 256) (z := 68) rfl tb_177 rfl (by omega) (by omega) (by omega) dX11_init_524 ?_
  refine ww_putR hX (pc := 526) (fun _ => hIn rfl) gX11_80 (by decide) rfl dX11_init_526 ?_
  refine ww_aload_n hX (pc := 529) dX11_init_529 rfl ?_
  refine ww_sipush hX (pc := 530) (x := 256) dX11_init_530 (by decide) ?_
  refine ww_na_longz hX (pc := 533) (N := 256) (z := 69) rfl tb_177 rfl (by omega) (by omega) (by omega) dX11_init_533 ?_
  refine ww_putR hX (pc := 535) (fun _ => hIn rfl) gX11_83 (by decide) rfl dX11_init_535 ?_
  refine ww_aload_n hX (pc := 538) dX11_init_538 rfl ?_
  refine ww_sipush hX (pc := 539) (x := 4352) dX11_init_539 (by decide) ?_
  refine ww_na_intz hX (pc := 542) (N := 4352) (z := 70) rfl tb_103 rfl (by omega) (by omega) (by omega) dX11_init_542 ?_
  refine ww_putR hX (pc := 544) (fun _ => hIn rfl) gX11_86 (by decide) rfl dX11_init_544 ?_
  refine ww_aload_n hX (pc := 547) dX11_init_547 rfl ?_
  refine ww_sipush hX (pc := 548) (x := 4352) dX11_init_548 (by decide) ?_
  refine ww_na_intz hX (pc := 551) (N := 4352) (z := 71) rfl tb_103 rfl (by omega) (by omega) (by omega) dX11_init_551 ?_
  refine ww_putR hX (pc := 553) (fun _ => hIn rfl) gX11_89 (by decide) rfl dX11_init_553 ?_
  refine ww_aload_n hX (pc := 556) dX11_init_556 rfl ?_
  refine ww_bipush hX (pc := 557) (x := 24) dX11_init_557 (by decide) ?_
  refine ww_na_intz hX (pc := 559) (N := 24) (z := 72) rfl tb_103 rfl (by omega) (by omega) (by omega) dX11_init_559 ?_
  refine ww_putR hX (pc := 561) (fun _ => hIn rfl) gX11_92 (by decide) rfl dX11_init_561 ?_
  refine ww_aload_n hX (pc := 564) dX11_init_564 rfl ?_
  refine ww_iconst hX (pc := 565) (x := (-1)) dX11_init_565 rfl ?_
  refine ww_putI hX (pc := 566) (fun h9 => absurd h9 (by decide)) gX11_95 rfl rfl dX11_init_566 ?_
  refine ww_aload_n hX (pc := 569) dX11_init_569 rfl ?_
  refine ww_getR hX (pc := 570) fX11_20 (by decide) rfl rfl dX11_init_570 ?_
  refine ww_sipush hX (pc := 573) (x := 304) dX11_init_573 (by decide) ?_
  refine ww_iconst hX (pc := 576) (x := 3) dX11_init_576 rfl ?_
  refine ww_iast hX (pc := 577) rfl (by decide) (by omega) (by omega) dX11_init_577 ?_
  refine ww_aload_n hX (pc := 578) dX11_init_578 rfl ?_
  refine ww_getR hX (pc := 579) fX11_20 (by decide) rfl rfl dX11_init_579 ?_
  refine ww_sipush hX (pc := 582) (x := 305) dX11_init_582 (by decide) ?_
  refine ww_iconst hX (pc := 585) (x := 4) dX11_init_585 rfl ?_
  refine ww_iast hX (pc := 586) rfl (by decide) (by omega) (by omega) dX11_init_586 ?_
  refine ww_nmH (fun I0 e0 => ?_)
  refine ww_nmK (fun J0 f0 => ?_)
  refine ww_nmR (fun R0 g0 => ?_)
  refine ww_nmS (fun S0 k0 => ?_)
  refine ww_nmU (fun uc0 us0 hu0 hs0 => ?_)
  have kI0 : Kp 49 73 Ia I0 := by
    rw [e0]
    repeat (first | exact Kp_rf | refine Kp_up ?_ _ _ (by decide) | refine Kp_upR ?_ _ (by decide))
  have kJ0 : Kp 49 73 Ja J0 := by
    rw [f0]
    repeat (first | exact Kp_rf | refine Kp_up ?_ _ _ (by decide) | refine Kp_upR ?_ _ (by decide))
  have gR0 : ∀ k9, k9 ≠ 49 → R0 k9 = Ra k9 := fun k9 h9 => by
    rw [g0]
    simp only [up2, if_neg h9]
  have hln : S0.length = 73 := by
    rw [k0]
    rfl
  have hR2 : ∀ q ∈ layR2, R0 q.1 q.2.1 = some q.2.2 := by
    rw [g0]
    intro q9 h9
    have h8 : q9 ∈ [(49, 2, 50), (49, 3, 51), (49, 4, 52), (49, 5, 53), (49, 7, 54), (49, 8, 55), (49, 9, 56), (49, 12, 57), (49, 13, 58), (49, 14, 59), (49, 22, 60), (49, 23, 61), (49, 24, 62), (49, 26, 63), (49, 27, 64), (49, 29, 65), (49, 30, 66), (49, 32, 67), (49, 34, 68), (49, 35, 69), (49, 36, 70), (49, 37, 71), (49, 38, 72)] := h9
    simp only [List.mem_cons, List.not_mem_nil, or_false] at h8
    rcases h8 with rfl | rfl | rfl | rfl | rfl | rfl | rfl | rfl | rfl | rfl | rfl | rfl | rfl | rfl | rfl | rfl | rfl | rfl | rfl | rfl | rfl | rfl | rfl <;> rfl
  have hL : LY R0 S0 := by
    refine ⟨fun q9 h9 => ?_, ?_⟩
    · by_cases h8 : q9.1 < 49
      · rw [gR0 q9.1 (by omega)]; exact hR q9 h9 h8
      · exact hR2 q9 (layR_2 h9 h8)
    · rw [k0]; decide +kernel
  have z51 : I0 51 = up1 (up1 (fun _ => 0) (304 : Int).toNat 3) (305 : Int).toNat 4 := by
    rw [e0]
    rfl
  have z53 : I0 53 = fun _ => 0 := by
    rw [e0]
    rfl
  have z61 : I0 61 = fun _ => 0 := by
    rw [e0]
    rfl
  have z6 : I0 49 6 = 0 := by
    rw [e0]
    exact hI0 6
  have z10 : I0 49 10 = 0 := by
    rw [e0]
    exact hI0 10
  have z33 : I0 49 33 = 0 := by
    rw [e0]
    exact hI0 33
  have z39 : I0 49 39 = -1 := by
    rw [e0]
    rfl
  have z54 : I0 54 59 = 32 := by
    rw [e0]
    show i_b 32 = 32
    decide
  have cI0 := RX_0 z51 z53 z61 z10 z33 z39 z54
  have qI0 := RX_o cI0
  clear e0 f0 g0 k0
  refine ww_iconst hX (pc := 587) (x := 0) dX11_init_587 rfl ?_
  refine ww_istore_n hX (pc := 588) (lv' := [some (kR (some 49)), some (kI 0)]) dX11_init_588 (by decide) rfl rfl ?_
  have hl_589 : ∀ (n_589 : Nat) (i : Int) (I589 : aI1) (J589 : aI1), (8 - i).toNat = n_589 → (Ch [51] [] I0 I589 ∧ RX I589 ∧ Kp 49 73 J0 J589 ∧ I589 51 304 = I0 51 304 ∧ I589 51 305 = I0 51 305 ∧ (0 ≤ i ∧ i ≤ 8) ∧ (∀ j : Nat, I589 51 j = if 256 ≤ (j : Int) ∧ (j : Int) < 256 + i then 1 else (up1 (up1 (fun _ => 0) (304 : Int).toNat 3) (305 : Int).toNat 4 : Nat → Int) j)) → WW X 589 [some (kR (some 49)), some (kI i)] [] I589 J589 R0 S0 uc0 us0 := by
    intro n_589
    induction n_589 using Nat.strongRecOn with
    | ind n_589 ih_589 =>
      intro i I589 J589 hm_589 hv_589
      have hq_589 := Sh0_i hm_589
      clear hm_589
      obtain ⟨kI589, cI589, kJ589, r304_I589, r305_I589, hv, hbj⟩ := hv_589
      have qI589 := RX_o cI589
      have rf_I589 : FU (I589 51 304) = FU (I0 51 304) := by rw [r304_I589]
      refine ww_iload_n hX (pc := 589) dX11_init_589 rfl ?_
      refine ww_bipush hX (pc := 590) (x := 8) dX11_init_590 (by decide) ?_
      refine ww_icmp_ge hX (pc := 592) (tgt := 612) dX11_init_592 (by decide) (fun h_592 => ?_) (fun h_592 => ?_)
      · simp only [w32_mod] at h_592
        refine ww_aload_n hX (pc := 612) dX11_init_612 rfl ?_
        refine vV0 hX (pc := 613) sX11_98 (xs_49 hL) (c5_X11_empties l0 hL cI589 ) (by decide) (by omega) (by omega) (Nat.le_of_ble_eq_true rfl) dX11_init_613 (fun I_613 J_613 h_613 => ?_)
        have kJ_613 : Kp 49 73 J0 J_613 := Kp_tr kJ589 h_613.2.1
        have kI_613 : Ch [51] [] I0 I_613 := Ch_tr kI589 (Ch_wd h_613.1 (by decide) (by decide))
        have cI_613 : RX I_613 := h_613.2.2.1
        have qI_613 := RX_o cI_613
        have y9 := h_613.2.2.2
        exact ww_vret hX (pc := 616) hT (by omega) (by omega) dX11_init_616 ⟨rfl, hL, cI_613, fun k9 h9 => ⟨(kI_613.1 k9 (by omega) (fun q9 => by simp only [List.mem_singleton] at q9; omega)).trans (kI0 k9 (by omega)), (kJ_613 k9 (by omega)).trans (kJ0 k9 (by omega)), gR0 k9 (by omega)⟩, hln, (kI_613.1 53 (by decide) (by decide)).trans z53, (kI_613.2 10 (by decide)).trans z10, (kI_613.2 6 (by decide)).trans z6, (kI_613.2 33 (by decide)).trans z33, (by rw [y9, EMr_o (by decide) (by decide), hbj 304, if_neg (by omega)]; rfl), (by rw [y9, EMr_o (by decide) (by decide), hbj 305, if_neg (by omega)]; rfl), (by rw [y9, EMr_o (by decide) (by decide), hbj 306, if_neg (by omega)]; rfl), (by rw [y9]; exact EMr_z (by decide)), (fun j hj => by rw [y9, EMr_o (by omega) (by omega), hbj (256 + j), if_pos (by omega)]), (fun j hj => by rw [y9, EMr_o (by omega) (by omega), hbj (288 + j), if_neg (by omega)]; exact (up1_n _ _ (by show 288 + j ≠ 305; omega)).trans (up1_n _ _ (by show 288 + j ≠ 304; omega)))⟩
      · simp only [w32_mod] at h_592
        refine ww_aload_n hX (pc := 595) dX11_init_595 rfl ?_
        refine ww_getR hX (pc := 596) fX11_20 (by decide) (xs_49 hL) (xr_49_3 hL) dX11_init_596 ?_
        refine ww_sipush hX (pc := 599) (x := 256) dX11_init_599 (by decide) ?_
        refine ww_iload_n hX (pc := 602) dX11_init_602 rfl ?_
        refine ww_iadd hX (pc := 603) dX11_init_603 ?_
        refine ww_iconst hX (pc := 604) (x := 1) dX11_init_604 rfl ?_
        refine ww_iast hX (pc := 605) (xs_51 hL) (by decide) (by omega) (by omega) dX11_init_605 ?_
        refine ww_nmH (fun I_605 eI_605 => ?_)
        have kI_605 : Ch [51] [] I0 I_605 := by rw [eI_605]; exact Ch_r kI589 (by decide) (by decide)
        have cI_605 : RX I_605 := by rw [eI_605]; exact RX_lo cI589 (by omega)
        have qI_605 := RX_o cI_605
        have r304_I_605 : I_605 51 304 = I589 51 304 := by rw [eI_605, up2_n _ _ (Or.inr (by omega))]
        have r305_I_605 : I_605 51 305 = I589 51 305 := by rw [eI_605, up2_n _ _ (Or.inr (by omega))]
        have rf_I_605 : FU (I_605 51 304) = FU (I589 51 304) := by rw [r304_I_605]
        have t605 : ∀ j : Nat, I_605 51 j = if 256 ≤ (j : Int) ∧ (j : Int) < 256 + (i + 1) then 1 else (up1 (up1 (fun _ => 0) (304 : Int).toNat 3) (305 : Int).toNat 4 : Nat → Int) j := fun j => by
          rw [eI_605, up2_row]
          by_cases e9 : j = (256 + i).toNat
          · rw [e9, up1_s, if_pos (by omega)]
          · rw [up1_n _ _ e9, hbj j]
            by_cases e8 : 256 ≤ (j : Int) ∧ (j : Int) < 256 + i
            · rw [if_pos e8, if_pos (by omega)]
            · rw [if_neg e8, if_neg (by omega)]
        refine ww_iinc hX (pc := 606) (lv' := [some (kR (some 49)), some (kI (i + 1))]) dX11_init_606 rfl (by decide) rfl rfl ?_
        refine ww_goto hX (pc := 609) (tgt := 589) dX11_init_609 (by decide) ?_
        exact ih_589 _ (by have hm9 := Sh0_e hq_589; omega) (i + 1) I_605 J589 rfl ⟨kI_605, cI_605, kJ589, by omega, by omega, ⟨by omega, by omega⟩, t605⟩
  exact hl_589 _ 0 I0 J0 rfl ⟨Ch_rf, cI0, (Kp_rf (a := 49) (b := 73)), rfl, rfl, ⟨by omega, by omega⟩, fun j => by rw [if_neg (by omega), z51]⟩
