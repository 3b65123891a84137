/-! CONSTRUCTORS: the reference's; the coupling behind both -/
def mI0 : List (Nat × Nat × Int32) := [(100, 10, 1), (109, 2, 1), (100, 19, 321), (108, 320, 0), (107, 320, 0), (100, 19, 320), (109, 1, 1), (100, 19, 161), (108, 160, 1), (107, 160, 0), (100, 19, 160), (109, 0, 3), (100, 19, 3), (108, 2, 0), (107, 2, 8), (100, 19, 2), (108, 1, 30), (107, 1, 0), (100, 19, 1), (108, 0, 0), (107, 0, 1), (120, 3, -1), (120, 2, -1), (120, 1, -1), (120, 0, -1), (100, 46, 0), (100, 45, 0), (100, 44, 0), (100, 43, -1), (100, 42, 0), (100, 41, 0), (100, 39, -1), (100, 38, -1), (100, 37, -1), (100, 36, 0), (100, 35, -1), (100, 34, -1), (100, 33, 0), (100, 32, 0), (100, 19, 0), (100, 18, 0), (100, 17, 0), (100, 16, 0), (100, 15, 0), (100, 14, 0), (100, 13, 0), (100, 12, 0), (100, 11, 0), (100, 10, 0), (100, 4, 0), (100, 3, 0), (100, 2, -1), (100, 1, 2), (100, 0, 0)]
def mR0 : List (Nat × Nat × Nat) := [(100, 52, 123), (100, 51, 122), (100, 50, 121), (100, 49, 120), (100, 48, 119), (100, 47, 118), (100, 31, 117), (100, 30, 116), (100, 29, 115), (100, 28, 114), (100, 27, 113), (100, 26, 112), (100, 25, 111), (100, 24, 110), (100, 23, 109), (100, 22, 108), (100, 21, 107), (100, 20, 106), (100, 9, 105), (100, 8, 104), (100, 7, 103), (100, 6, 102), (100, 5, 101)]
set_option maxHeartbeats 4000000 in
theorem c_X12_init {X : pmX} {d : Nat} {b v : pmV} {P : Option Value → pmT → pmV → Prop} (hI : IN 100 b [] [] v) (K : ∀ v, IN 100 b mI0 mR0 v → P none (pmT0.take 92) v) : EvP X (d + 5) MX12_init 0 [.ref 100] [] (pmT0.take 69) v P := by
  refine ev_aload_n 0 dX12_init_0 rfl (by decide) ?_
  refine ev_obj 1 dX12_init_1 ob_12_77 (by decide) (Nat.le_of_ble_eq_true rfl) ?_
  refine ev_aload_n 4 dX12_init_4 rfl (by decide) ?_
  refine ev_iconst 5 dX12_init_5 kI_0 ?_
  refine pf_12_1 (pc := 6) rfl dX12_init_6 (by decide +kernel) ?_
  refine iv_put hI (by decide) (fun v hI => ?_)
  refine ev_aload_n 9 dX12_init_9 rfl (by decide) ?_
  refine ev_iconst 10 dX12_init_10 kI_2 ?_
  refine pf_12_28 (pc := 11) rfl dX12_init_11 (by decide +kernel) ?_
  refine iv_put hI (by decide) (fun v hI => ?_)
  refine ev_aload_n 14 dX12_init_14 rfl (by decide) ?_
  refine ev_iconst 15 dX12_init_15 kI_m1 ?_
  refine pf_12_50 (pc := 16) rfl dX12_init_16 (by decide +kernel) ?_
  refine iv_put hI (by decide) (fun v hI => ?_)
  refine ev_aload_n 19 dX12_init_19 rfl (by decide) ?_
  refine ev_iconst 20 dX12_init_20 kI_0 ?_
  refine pf_12_59 (pc := 21) rfl dX12_init_21 (by decide +kernel) ?_
  refine iv_put hI (by decide) (fun v hI => ?_)
  refine ev_aload_n 24 dX12_init_24 rfl (by decide) ?_
  refine ev_iconst 25 dX12_init_25 kI_0 ?_
  refine pf_12_62 (pc := 26) rfl dX12_init_26 (by decide +kernel) ?_
  refine iv_put hI (by decide) (fun v hI => ?_)
  refine ev_aload_n 29 dX12_init_29 rfl (by decide) ?_
  refine ev_bipush 30 dX12_init_30 kB_8 ?_
  refine ev_newi (n := 8) 32 dX12_init_32 (by decide) (by decide) ?_
  refine iv_new (n := 69) (a := 101) hI (by decide +kernel) (by decide) (by decide +kernel) (by decide) (by decide) (fun v hI => ?_)
  refine pf_12_11 (hN := nm_X12_init) (pc := 34) rfl dX12_init_34 (by decide +kernel) (Nat.le_of_ble_eq_true rfl) ?_
  refine iv_ref hI (by decide) (fun v hI => ?_)
  refine ev_aload_n 37 dX12_init_37 rfl (by decide) ?_
  refine ev_bipush 38 dX12_init_38 kB_8 ?_
  refine ev_newi (n := 8) 40 dX12_init_40 (by decide) (by decide) ?_
  refine iv_new (n := 70) (a := 102) hI (by decide +kernel) (by decide) (by decide +kernel) (by decide) (by decide) (fun v hI => ?_)
  refine pf_12_15 (hN := nm_X12_init) (pc := 42) rfl dX12_init_42 (by decide +kernel) (Nat.le_of_ble_eq_true rfl) ?_
  refine iv_ref hI (by decide) (fun v hI => ?_)
  refine ev_aload_n 45 dX12_init_45 rfl (by decide) ?_
  refine ev_bipush 46 dX12_init_46 kB_8 ?_
  refine ev_newi (n := 8) 48 dX12_init_48 (by decide) (by decide) ?_
  refine iv_new (n := 71) (a := 103) hI (by decide +kernel) (by decide) (by decide +kernel) (by decide) (by decide) (fun v hI => ?_)
  refine pf_12_18 (hN := nm_X12_init) (pc := 50) rfl dX12_init_50 (by decide +kernel) (Nat.le_of_ble_eq_true rfl) ?_
  refine iv_ref hI (by decide) (fun v hI => ?_)
  refine ev_aload_n 53 dX12_init_53 rfl (by decide) ?_
  refine ev_bipush 54 dX12_init_54 kB_120 ?_
  refine ev_newi (n := 120) 56 dX12_init_56 (by decide) (by decide) ?_
  refine iv_new (n := 72) (a := 104) hI (by decide +kernel) (by decide) (by decide +kernel) (by decide) (by decide) (fun v hI => ?_)
  refine pf_12_31 (hN := nm_X12_init) (pc := 58) rfl dX12_init_58 (by decide +kernel) (Nat.le_of_ble_eq_true rfl) ?_
  refine iv_ref hI (by decide) (fun v hI => ?_)
  refine ev_aload_n 61 dX12_init_61 rfl (by decide) ?_
  refine ev_bipush 62 dX12_init_62 kB_120 ?_
  refine ev_newi (n := 120) 64 dX12_init_64 (by decide) (by decide) ?_
  refine iv_new (n := 73) (a := 105) hI (by decide +kernel) (by decide) (by decide +kernel) (by decide) (by decide) (fun v hI => ?_)
  refine pf_12_34 (hN := nm_X12_init) (pc := 66) rfl dX12_init_66 (by decide +kernel) (Nat.le_of_ble_eq_true rfl) ?_
  refine iv_ref hI (by decide) (fun v hI => ?_)
  refine ev_aload_n 69 dX12_init_69 rfl (by decide) ?_
  refine ev_iconst 70 dX12_init_70 kI_0 ?_
  refine pf_12_83 (pc := 71) rfl dX12_init_71 (by decide +kernel) ?_
  refine iv_put hI (by decide) (fun v hI => ?_)
  refine ev_aload_n 74 dX12_init_74 rfl (by decide) ?_
  refine ev_iconst 75 dX12_init_75 kI_0 ?_
  refine pf_12_86 (pc := 76) rfl dX12_init_76 (by decide +kernel) ?_
  refine iv_put hI (by decide) (fun v hI => ?_)
  refine ev_aload_n 79 dX12_init_79 rfl (by decide) ?_
  refine ev_iconst 80 dX12_init_80 kI_0 ?_
  refine pf_12_89 (pc := 81) rfl dX12_init_81 (by decide +kernel) ?_
  refine iv_put hI (by decide) (fun v hI => ?_)
  refine ev_aload_n 84 dX12_init_84 rfl (by decide) ?_
  refine ev_iconst 85 dX12_init_85 kI_0 ?_
  refine pf_12_92 (pc := 86) rfl dX12_init_86 (by decide +kernel) ?_
  refine iv_put hI (by decide) (fun v hI => ?_)
  refine ev_aload_n 89 dX12_init_89 rfl (by decide) ?_
  refine ev_iconst 90 dX12_init_90 kI_0 ?_
  refine pf_12_95 (pc := 91) rfl dX12_init_91 (by decide +kernel) ?_
  refine iv_put hI (by decide) (fun v hI => ?_)
  refine ev_aload_n 94 dX12_init_94 rfl (by decide) ?_
  refine ev_iconst 95 dX12_init_95 kI_0 ?_
  refine pf_12_98 (pc := 96) rfl dX12_init_96 (by decide +kernel) ?_
  refine iv_put hI (by decide) (fun v hI => ?_)
  refine ev_aload_n 99 dX12_init_99 rfl (by decide) ?_
  refine ev_iconst 100 dX12_init_100 kI_0 ?_
  refine pf_12_101 (pc := 101) rfl dX12_init_101 (by decide +kernel) ?_
  refine iv_put hI (by decide) (fun v hI => ?_)
  refine ev_aload_n 104 dX12_init_104 rfl (by decide) ?_
  refine ev_iconst 105 dX12_init_105 kI_0 ?_
  refine pf_12_104 (pc := 106) rfl dX12_init_106 (by decide +kernel) ?_
  refine iv_put hI (by decide) (fun v hI => ?_)
  refine ev_aload_n 109 dX12_init_109 rfl (by decide) ?_
  refine ev_iconst 110 dX12_init_110 kI_0 ?_
  refine pf_12_107 (pc := 111) rfl dX12_init_111 (by decide +kernel) ?_
  refine iv_put hI (by decide) (fun v hI => ?_)
  refine ev_aload_n 114 dX12_init_114 rfl (by decide) ?_
  refine ev_iconst 115 dX12_init_115 kI_0 ?_
  refine pf_12_110 (pc := 116) rfl dX12_init_116 (by decide +kernel) ?_
  refine iv_put hI (by decide) (fun v hI => ?_)
  refine ev_aload_n 119 dX12_init_119 rfl (by decide) ?_
  refine ev_sipush 120 dX12_init_120 kS_160 ?_
  refine ev_newi (n := 160) 123 dX12_init_123 (by decide) (by decide) ?_
  refine iv_new (n := 74) (a := 106) hI (by decide +kernel) (by decide) (by decide +kernel) (by decide) (by decide) (fun v hI => ?_)
  refine pf_12_113 (hN := nm_X12_init) (pc := 125) rfl dX12_init_125 (by decide +kernel) (Nat.le_of_ble_eq_true rfl) ?_
  refine iv_ref hI (by decide) (fun v hI => ?_)
  refine ev_aload_n 128 dX12_init_128 rfl (by decide) ?_
  refine ev_sipush 129 dX12_init_129 kS_2880 ?_
  refine ev_newi (n := 2880) 132 dX12_init_132 (by decide) (by decide) ?_
  refine iv_new (n := 75) (a := 107) hI (by decide +kernel) (by decide) (by decide +kernel) (by decide) (by decide) (fun v hI => ?_)
  refine pf_12_116 (hN := nm_X12_init) (pc := 134) rfl dX12_init_134 (by decide +kernel) (Nat.le_of_ble_eq_true rfl) ?_
  refine iv_ref hI (by decide) (fun v hI => ?_)
  refine ev_aload_n 137 dX12_init_137 rfl (by decide) ?_
  refine ev_sipush 138 dX12_init_138 kS_2880 ?_
  refine ev_newi (n := 2880) 141 dX12_init_141 (by decide) (by decide) ?_
  refine iv_new (n := 76) (a := 108) hI (by decide +kernel) (by decide) (by decide +kernel) (by decide) (by decide) (fun v hI => ?_)
  refine pf_12_119 (hN := nm_X12_init) (pc := 143) rfl dX12_init_143 (by decide +kernel) (Nat.le_of_ble_eq_true rfl) ?_
  refine iv_ref hI (by decide) (fun v hI => ?_)
  refine ev_aload_n 146 dX12_init_146 rfl (by decide) ?_
  refine ev_bipush 147 dX12_init_147 kB_18 ?_
  refine ev_newi (n := 18) 149 dX12_init_149 (by decide) (by decide) ?_
  refine iv_new (n := 77) (a := 109) hI (by decide +kernel) (by decide) (by decide +kernel) (by decide) (by decide) (fun v hI => ?_)
  refine pf_12_122 (hN := nm_X12_init) (pc := 151) rfl dX12_init_151 (by decide +kernel) (Nat.le_of_ble_eq_true rfl) ?_
  refine iv_ref hI (by decide) (fun v hI => ?_)
  refine ev_aload_n 154 dX12_init_154 rfl (by decide) ?_
  refine ev_sipush 155 dX12_init_155 kS_161 ?_
  refine ev_newi (n := 161) 158 dX12_init_158 (by decide) (by decide) ?_
  refine iv_new (n := 78) (a := 110) hI (by decide +kernel) (by decide) (by decide +kernel) (by decide) (by decide) (fun v hI => ?_)
  refine pf_12_125 (hN := nm_X12_init) (pc := 160) rfl dX12_init_160 (by decide +kernel) (Nat.le_of_ble_eq_true rfl) ?_
  refine iv_ref hI (by decide) (fun v hI => ?_)
  refine ev_aload_n 163 dX12_init_163 rfl (by decide) ?_
  refine ev_sipush 164 dX12_init_164 kS_161 ?_
  refine ev_newi (n := 161) 167 dX12_init_167 (by decide) (by decide) ?_
  refine iv_new (n := 79) (a := 111) hI (by decide +kernel) (by decide) (by decide +kernel) (by decide) (by decide) (fun v hI => ?_)
  refine pf_12_128 (hN := nm_X12_init) (pc := 169) rfl dX12_init_169 (by decide +kernel) (Nat.le_of_ble_eq_true rfl) ?_
  refine iv_ref hI (by decide) (fun v hI => ?_)
  refine ev_aload_n 172 dX12_init_172 rfl (by decide) ?_
  refine ev_bipush 173 dX12_init_173 kB_6 ?_
  refine ev_newi (n := 6) 175 dX12_init_175 (by decide) (by decide) ?_
  refine iv_new (n := 80) (a := 112) hI (by decide +kernel) (by decide) (by decide +kernel) (by decide) (by decide) (fun v hI => ?_)
  refine pf_12_131 (hN := nm_X12_init) (pc := 177) rfl dX12_init_177 (by decide +kernel) (Nat.le_of_ble_eq_true rfl) ?_
  refine iv_ref hI (by decide) (fun v hI => ?_)
  refine ev_aload_n 180 dX12_init_180 rfl (by decide) ?_
  refine ev_iconst 181 dX12_init_181 kI_2 ?_
  refine ev_newi (n := 2) 182 dX12_init_182 (by decide) (by decide) ?_
  refine iv_new (n := 81) (a := 113) hI (by decide +kernel) (by decide) (by decide +kernel) (by decide) (by decide) (fun v hI => ?_)
  refine pf_12_134 (hN := nm_X12_init) (pc := 184) rfl dX12_init_184 (by decide +kernel) (Nat.le_of_ble_eq_true rfl) ?_
  refine iv_ref hI (by decide) (fun v hI => ?_)
  refine ev_aload_n 187 dX12_init_187 rfl (by decide) ?_
  refine ev_iconst 188 dX12_init_188 kI_2 ?_
  refine ev_newi (n := 2) 189 dX12_init_189 (by decide) (by decide) ?_
  refine iv_new (n := 82) (a := 114) hI (by decide +kernel) (by decide) (by decide +kernel) (by decide) (by decide) (fun v hI => ?_)
  refine pf_12_137 (hN := nm_X12_init) (pc := 191) rfl dX12_init_191 (by decide +kernel) (Nat.le_of_ble_eq_true rfl) ?_
  refine iv_ref hI (by decide) (fun v hI => ?_)
  refine ev_aload_n 194 dX12_init_194 rfl (by decide) ?_
  refine ev_iconst 195 dX12_init_195 kI_2 ?_
  refine ev_newi (n := 2) 196 dX12_init_196 (by decide) (by decide) ?_
  refine iv_new (n := 83) (a := 115) hI (by decide +kernel) (by decide) (by decide +kernel) (by decide) (by decide) (fun v hI => ?_)
  refine pf_12_140 (hN := nm_X12_init) (pc := 198) rfl dX12_init_198 (by decide +kernel) (Nat.le_of_ble_eq_true rfl) ?_
  refine iv_ref hI (by decide) (fun v hI => ?_)
  refine ev_aload_n 201 dX12_init_201 rfl (by decide) ?_
  refine ev_bipush 202 dX12_init_202 kB_8 ?_
  refine ev_newi (n := 8) 204 dX12_init_204 (by decide) (by decide) ?_
  refine iv_new (n := 84) (a := 116) hI (by decide +kernel) (by decide) (by decide +kernel) (by decide) (by decide) (fun v hI => ?_)
  refine pf_12_143 (hN := nm_X12_init) (pc := 206) rfl dX12_init_206 (by decide +kernel) (Nat.le_of_ble_eq_true rfl) ?_
  refine iv_ref hI (by decide) (fun v hI => ?_)
  refine ev_aload_n 209 dX12_init_209 rfl (by decide) ?_
  refine ev_bipush 210 dX12_init_210 kB_8 ?_
  refine ev_newi (n := 8) 212 dX12_init_212 (by decide) (by decide) ?_
  refine iv_new (n := 85) (a := 117) hI (by decide +kernel) (by decide) (by decide +kernel) (by decide) (by decide) (fun v hI => ?_)
  refine pf_12_146 (hN := nm_X12_init) (pc := 214) rfl dX12_init_214 (by decide +kernel) (Nat.le_of_ble_eq_true rfl) ?_
  refine iv_ref hI (by decide) (fun v hI => ?_)
  refine ev_aload_n 217 dX12_init_217 rfl (by decide) ?_
  refine ev_iconst 218 dX12_init_218 kI_0 ?_
  refine pf_12_149 (pc := 219) rfl dX12_init_219 (by decide +kernel) ?_
  refine iv_put hI (by decide) (fun v hI => ?_)
  refine ev_aload_n 222 dX12_init_222 rfl (by decide) ?_
  refine ev_iconst 223 dX12_init_223 kI_0 ?_
  refine pf_12_152 (pc := 224) rfl dX12_init_224 (by decide +kernel) ?_
  refine iv_put hI (by decide) (fun v hI => ?_)
  refine ev_aload_n 227 dX12_init_227 rfl (by decide) ?_
  refine ev_iconst 228 dX12_init_228 kI_m1 ?_
  refine pf_12_155 (pc := 229) rfl dX12_init_229 (by decide +kernel) ?_
  refine iv_put hI (by decide) (fun v hI => ?_)
  refine ev_aload_n 232 dX12_init_232 rfl (by decide) ?_
  refine ev_iconst 233 dX12_init_233 kI_m1 ?_
  refine pf_12_158 (pc := 234) rfl dX12_init_234 (by decide +kernel) ?_
  refine iv_put hI (by decide) (fun v hI => ?_)
  refine ev_aload_n 237 dX12_init_237 rfl (by decide) ?_
  refine ev_iconst 238 dX12_init_238 kI_0 ?_
  refine pf_12_161 (pc := 239) rfl dX12_init_239 (by decide +kernel) ?_
  refine iv_put hI (by decide) (fun v hI => ?_)
  refine ev_aload_n 242 dX12_init_242 rfl (by decide) ?_
  refine ev_iconst 243 dX12_init_243 kI_m1 ?_
  refine pf_12_164 (pc := 244) rfl dX12_init_244 (by decide +kernel) ?_
  refine iv_put hI (by decide) (fun v hI => ?_)
  refine ev_aload_n 247 dX12_init_247 rfl (by decide) ?_
  refine ev_iconst 248 dX12_init_248 kI_m1 ?_
  refine pf_12_167 (pc := 249) rfl dX12_init_249 (by decide +kernel) ?_
  refine iv_put hI (by decide) (fun v hI => ?_)
  refine ev_aload_n 252 dX12_init_252 rfl (by decide) ?_
  refine ev_iconst 253 dX12_init_253 kI_m1 ?_
  refine pf_12_170 (pc := 254) rfl dX12_init_254 (by decide +kernel) ?_
  refine iv_put hI (by decide) (fun v hI => ?_)
  refine ev_aload_n 257 dX12_init_257 rfl (by decide) ?_
  refine ev_lconst (x := 0) 258 dX12_init_258 rfl ?_
  refine pf_12_173 (pc := 259) rfl dX12_init_259 (by decide +kernel) ?_
  refine iv_lng hI (by decide) (fun v hI => ?_)
  refine ev_aload_n 262 dX12_init_262 rfl (by decide) ?_
  refine ev_iconst 263 dX12_init_263 kI_0 ?_
  refine pf_12_177 (pc := 264) rfl dX12_init_264 (by decide +kernel) (Or.inl rfl) ?_
  refine iv_put hI (by decide) (fun v hI => ?_)
  refine ev_aload_n 267 dX12_init_267 rfl (by decide) ?_
  refine ev_iconst 268 dX12_init_268 kI_0 ?_
  refine pf_12_181 (pc := 269) rfl dX12_init_269 (by decide +kernel) ?_
  refine iv_put hI (by decide) (fun v hI => ?_)
  refine ev_aload_n 272 dX12_init_272 rfl (by decide) ?_
  refine ev_iconst 273 dX12_init_273 kI_m1 ?_
  refine pf_12_184 (pc := 274) rfl dX12_init_274 (by decide +kernel) ?_
  refine iv_put hI (by decide) (fun v hI => ?_)
  refine ev_aload_n 277 dX12_init_277 rfl (by decide) ?_
  refine ev_iconst 278 dX12_init_278 kI_0 ?_
  refine pf_12_187 (pc := 279) rfl dX12_init_279 (by decide +kernel) ?_
  refine iv_put hI (by decide) (fun v hI => ?_)
  refine ev_aload_n 282 dX12_init_282 rfl (by decide) ?_
  refine ev_iconst 283 dX12_init_283 kI_0 ?_
  refine pf_12_190 (pc := 284) rfl dX12_init_284 (by decide +kernel) ?_
  refine iv_put hI (by decide) (fun v hI => ?_)
  refine ev_aload_n 287 dX12_init_287 rfl (by decide) ?_
  refine ev_iconst 288 dX12_init_288 kI_0 ?_
  refine pf_12_193 (pc := 289) rfl dX12_init_289 (by decide +kernel) ?_
  refine iv_put hI (by decide) (fun v hI => ?_)
  refine ev_aload_n 292 dX12_init_292 rfl (by decide) ?_
  refine ev_bipush 293 dX12_init_293 kB_120 ?_
  refine ev_newi (n := 120) 295 dX12_init_295 (by decide) (by decide) ?_
  refine iv_new (n := 86) (a := 118) hI (by decide +kernel) (by decide) (by decide +kernel) (by decide) (by decide) (fun v hI => ?_)
  refine pf_12_196 (hN := nm_X12_init) (pc := 297) rfl dX12_init_297 (by decide +kernel) (Nat.le_of_ble_eq_true rfl) ?_
  refine iv_ref hI (by decide) (fun v hI => ?_)
  refine ev_aload_n 300 dX12_init_300 rfl (by decide) ?_
  refine ev_bipush 301 dX12_init_301 kB_120 ?_
  refine ev_newi (n := 120) 303 dX12_init_303 (by decide) (by decide) ?_
  refine iv_new (n := 87) (a := 119) hI (by decide +kernel) (by decide) (by decide +kernel) (by decide) (by decide) (fun v hI => ?_)
  refine pf_12_199 (hN := nm_X12_init) (pc := 305) rfl dX12_init_305 (by decide +kernel) (Nat.le_of_ble_eq_true rfl) ?_
  refine iv_ref hI (by decide) (fun v hI => ?_)
  refine ev_aload_n 308 dX12_init_308 rfl (by decide) ?_
  refine ev_iconst 309 dX12_init_309 kI_4 ?_
  refine ev_newi (n := 4) 310 dX12_init_310 (by decide) (by decide) ?_
  refine iv_new (n := 88) (a := 120) hI (by decide +kernel) (by decide) (by decide +kernel) (by decide) (by decide) (fun v hI => ?_)
  refine ev_dup 312 dX12_init_312 rfl ?_
  refine ev_iconst 313 dX12_init_313 kI_0 ?_
  refine ev_iconst 314 dX12_init_314 kI_m1 ?_
  refine ev_iastJ (j := 0) 315 dX12_init_315 (Nat.le_of_ble_eq_true rfl) (tq (by decide) ty_120) (by decide) rfl ?_
  refine iv_put hI (by decide) (fun v hI => ?_)
  refine ev_dup 316 dX12_init_316 rfl ?_
  refine ev_iconst 317 dX12_init_317 kI_1 ?_
  refine ev_iconst 318 dX12_init_318 kI_m1 ?_
  refine ev_iastJ (j := 1) 319 dX12_init_319 (Nat.le_of_ble_eq_true rfl) (tq (by decide) ty_120) (by decide) rfl ?_
  refine iv_put hI (by decide) (fun v hI => ?_)
  refine ev_dup 320 dX12_init_320 rfl ?_
  refine ev_iconst 321 dX12_init_321 kI_2 ?_
  refine ev_iconst 322 dX12_init_322 kI_m1 ?_
  refine ev_iastJ (j := 2) 323 dX12_init_323 (Nat.le_of_ble_eq_true rfl) (tq (by decide) ty_120) (by decide) rfl ?_
  refine iv_put hI (by decide) (fun v hI => ?_)
  refine ev_dup 324 dX12_init_324 rfl ?_
  refine ev_iconst 325 dX12_init_325 kI_3 ?_
  refine ev_iconst 326 dX12_init_326 kI_m1 ?_
  refine ev_iastJ (j := 3) 327 dX12_init_327 (Nat.le_of_ble_eq_true rfl) (tq (by decide) ty_120) (by decide) rfl ?_
  refine iv_put hI (by decide) (fun v hI => ?_)
  refine pf_12_41 (hN := nm_X12_init) (pc := 328) rfl dX12_init_328 (by decide +kernel) (Nat.le_of_ble_eq_true rfl) ?_
  refine iv_ref hI (by decide) (fun v hI => ?_)
  refine ev_aload_n 331 dX12_init_331 rfl (by decide) ?_
  refine ev_iconst 332 dX12_init_332 kI_4 ?_
  refine ev_newi (n := 4) 333 dX12_init_333 (by decide) (by decide) ?_
  refine iv_new (n := 89) (a := 121) hI (by decide +kernel) (by decide) (by decide +kernel) (by decide) (by decide) (fun v hI => ?_)
  refine pf_12_44 (hN := nm_X12_init) (pc := 335) rfl dX12_init_335 (by decide +kernel) (Nat.le_of_ble_eq_true rfl) ?_
  refine iv_ref hI (by decide) (fun v hI => ?_)
  refine ev_aload_n 338 dX12_init_338 rfl (by decide) ?_
  refine ev_sipush 339 dX12_init_339 kS_240 ?_
  refine ev_newi (n := 240) 342 dX12_init_342 (by decide) (by decide) ?_
  refine iv_new (n := 90) (a := 122) hI (by decide +kernel) (by decide) (by decide +kernel) (by decide) (by decide) (fun v hI => ?_)
  refine pf_12_47 (hN := nm_X12_init) (pc := 344) rfl dX12_init_344 (by decide +kernel) (Nat.le_of_ble_eq_true rfl) ?_
  refine iv_ref hI (by decide) (fun v hI => ?_)
  refine ev_aload_n 347 dX12_init_347 rfl (by decide) ?_
  refine ev_bipush 348 dX12_init_348 kB_60 ?_
  refine ev_newi (n := 60) 350 dX12_init_350 (by decide) (by decide) ?_
  refine iv_new (n := 91) (a := 123) hI (by decide +kernel) (by decide) (by decide +kernel) (by decide) (by decide) (fun v hI => ?_)
  refine pf_12_202 (hN := nm_X12_init) (pc := 352) rfl dX12_init_352 (by decide +kernel) (Nat.le_of_ble_eq_true rfl) ?_
  refine iv_ref hI (by decide) (fun v hI => ?_)
  refine ev_aload_n 355 dX12_init_355 rfl (by decide) ?_
  refine ev_iconst 356 dX12_init_356 kI_1 ?_
  refine ev_iconst 357 dX12_init_357 kI_0 ?_
  refine cv_12_205_12 (pc := 358) rfl dX12_init_358 (by decide +kernel) (Nat.le_of_ble_eq_true rfl) ?_
  refine ev_aload_n 0 dX12_put_0 rfl (by decide) ?_
  refine gf_12_116 (pc := 1) rfl dX12_put_1 (by decide +kernel) (hI.rr (x := some 107) (by decide) (by decide +kernel)) ?_
  refine ev_aload_n 4 dX12_put_4 rfl (by decide) ?_
  refine gf_12_110 (x := 0) (pc := 5) rfl dX12_put_5 (by decide +kernel) (hI.ri (by decide) (by decide +kernel)) ?_
  refine ev_iload_n 8 dX12_put_8 rfl ?_
  refine ev_iastJ (j := 0) 9 dX12_put_9 (Nat.le_of_ble_eq_true rfl) (tq (by decide) ty_107) (by decide) rfl ?_
  refine iv_put hI (by decide) (fun v hI => ?_)
  refine ev_aload_n 10 dX12_put_10 rfl (by decide) ?_
  refine gf_12_119 (pc := 11) rfl dX12_put_11 (by decide +kernel) (hI.rr (x := some 108) (by decide) (by decide +kernel)) ?_
  refine ev_aload_n 14 dX12_put_14 rfl (by decide) ?_
  refine gf_12_110 (x := 0) (pc := 15) rfl dX12_put_15 (by decide +kernel) (hI.ri (by decide) (by decide +kernel)) ?_
  refine ev_iload_n 18 dX12_put_18 rfl ?_
  refine ev_iastJ (j := 0) 19 dX12_put_19 (Nat.le_of_ble_eq_true rfl) (tq (by decide) ty_108) (by decide) rfl ?_
  refine iv_put hI (by decide) (fun v hI => ?_)
  refine ev_aload_n 20 dX12_put_20 rfl (by decide) ?_
  refine ev_dup 21 dX12_put_21 rfl ?_
  refine gf_12_110 (x := 0) (pc := 22) rfl dX12_put_22 (by decide +kernel) (hI.ri (by decide) (by decide +kernel)) ?_
  refine ev_iconst 25 dX12_put_25 kI_1 ?_
  refine ev_iadd 26 dX12_put_26 ?_
  refine ev_cst (y := 1) (by decide) ?_
  refine pf_12_110 (pc := 27) rfl dX12_put_27 (by decide +kernel) ?_
  refine iv_put hI (by decide) (fun v hI => ?_)
  refine ev_return 30 dX12_put_30 rfl ?_
  refine ev_aload_n 361 dX12_init_361 rfl (by decide) ?_
  refine ev_iconst 362 dX12_init_362 kI_0 ?_
  refine ev_bipush 363 dX12_init_363 kB_30 ?_
  refine cv_12_205_12 (pc := 365) rfl dX12_init_365 (by decide +kernel) (Nat.le_of_ble_eq_true rfl) ?_
  refine ev_aload_n 0 dX12_put_0 rfl (by decide) ?_
  refine gf_12_116 (pc := 1) rfl dX12_put_1 (by decide +kernel) (hI.rr (x := some 107) (by decide) (by decide +kernel)) ?_
  refine ev_aload_n 4 dX12_put_4 rfl (by decide) ?_
  refine gf_12_110 (x := 1) (pc := 5) rfl dX12_put_5 (by decide +kernel) (hI.ri (by decide) (by decide +kernel)) ?_
  refine ev_iload_n 8 dX12_put_8 rfl ?_
  refine ev_iastJ (j := 1) 9 dX12_put_9 (Nat.le_of_ble_eq_true rfl) (tq (by decide) ty_107) (by decide) rfl ?_
  refine iv_put hI (by decide) (fun v hI => ?_)
  refine ev_aload_n 10 dX12_put_10 rfl (by decide) ?_
  refine gf_12_119 (pc := 11) rfl dX12_put_11 (by decide +kernel) (hI.rr (x := some 108) (by decide) (by decide +kernel)) ?_
  refine ev_aload_n 14 dX12_put_14 rfl (by decide) ?_
  refine gf_12_110 (x := 1) (pc := 15) rfl dX12_put_15 (by decide +kernel) (hI.ri (by decide) (by decide +kernel)) ?_
  refine ev_iload_n 18 dX12_put_18 rfl ?_
  refine ev_iastJ (j := 1) 19 dX12_put_19 (Nat.le_of_ble_eq_true rfl) (tq (by decide) ty_108) (by decide) rfl ?_
  refine iv_put hI (by decide) (fun v hI => ?_)
  refine ev_aload_n 20 dX12_put_20 rfl (by decide) ?_
  refine ev_dup 21 dX12_put_21 rfl ?_
  refine gf_12_110 (x := 1) (pc := 22) rfl dX12_put_22 (by decide +kernel) (hI.ri (by decide) (by decide +kernel)) ?_
  refine ev_iconst 25 dX12_put_25 kI_1 ?_
  refine ev_iadd 26 dX12_put_26 ?_
  refine ev_cst (y := 2) (by decide) ?_
  refine pf_12_110 (pc := 27) rfl dX12_put_27 (by decide +kernel) ?_
  refine iv_put hI (by decide) (fun v hI => ?_)
  refine ev_return 30 dX12_put_30 rfl ?_
  refine ev_aload_n 368 dX12_init_368 rfl (by decide) ?_
  refine ev_bipush 369 dX12_init_369 kB_8 ?_
  refine ev_iconst 371 dX12_init_371 kI_0 ?_
  refine cv_12_205_12 (pc := 372) rfl dX12_init_372 (by decide +kernel) (Nat.le_of_ble_eq_true rfl) ?_
  refine ev_aload_n 0 dX12_put_0 rfl (by decide) ?_
  refine gf_12_116 (pc := 1) rfl dX12_put_1 (by decide +kernel) (hI.rr (x := some 107) (by decide) (by decide +kernel)) ?_
  refine ev_aload_n 4 dX12_put_4 rfl (by decide) ?_
  refine gf_12_110 (x := 2) (pc := 5) rfl dX12_put_5 (by decide +kernel) (hI.ri (by decide) (by decide +kernel)) ?_
  refine ev_iload_n 8 dX12_put_8 rfl ?_
  refine ev_iastJ (j := 2) 9 dX12_put_9 (Nat.le_of_ble_eq_true rfl) (tq (by decide) ty_107) (by decide) rfl ?_
  refine iv_put hI (by decide) (fun v hI => ?_)
  refine ev_aload_n 10 dX12_put_10 rfl (by decide) ?_
  refine gf_12_119 (pc := 11) rfl dX12_put_11 (by decide +kernel) (hI.rr (x := some 108) (by decide) (by decide +kernel)) ?_
  refine ev_aload_n 14 dX12_put_14 rfl (by decide) ?_
  refine gf_12_110 (x := 2) (pc := 15) rfl dX12_put_15 (by decide +kernel) (hI.ri (by decide) (by decide +kernel)) ?_
  refine ev_iload_n 18 dX12_put_18 rfl ?_
  refine ev_iastJ (j := 2) 19 dX12_put_19 (Nat.le_of_ble_eq_true rfl) (tq (by decide) ty_108) (by decide) rfl ?_
  refine iv_put hI (by decide) (fun v hI => ?_)
  refine ev_aload_n 20 dX12_put_20 rfl (by decide) ?_
  refine ev_dup 21 dX12_put_21 rfl ?_
  refine gf_12_110 (x := 2) (pc := 22) rfl dX12_put_22 (by decide +kernel) (hI.ri (by decide) (by decide +kernel)) ?_
  refine ev_iconst 25 dX12_put_25 kI_1 ?_
  refine ev_iadd 26 dX12_put_26 ?_
  refine ev_cst (y := 3) (by decide) ?_
  refine pf_12_110 (pc := 27) rfl dX12_put_27 (by decide +kernel) ?_
  refine iv_put hI (by decide) (fun v hI => ?_)
  refine ev_return 30 dX12_put_30 rfl ?_
  refine ev_aload_n 375 dX12_init_375 rfl (by decide) ?_
  refine gf_12_122 (pc := 376) rfl dX12_init_376 (by decide +kernel) (hI.rr (x := some 109) (by decide) (by decide +kernel)) ?_
  refine ev_iconst 379 dX12_init_379 kI_0 ?_
  refine ev_iconst 380 dX12_init_380 kI_3 ?_
  refine ev_iastJ (j := 0) 381 dX12_init_381 (Nat.le_of_ble_eq_true rfl) (tq (by decide) ty_109) (by decide) rfl ?_
  refine iv_put hI (by decide) (fun v hI => ?_)
  refine ev_aload_n 382 dX12_init_382 rfl (by decide) ?_
  refine ev_sipush 383 dX12_init_383 kS_160 ?_
  refine pf_12_110 (pc := 386) rfl dX12_init_386 (by decide +kernel) ?_
  refine iv_put hI (by decide) (fun v hI => ?_)
  refine ev_aload_n 389 dX12_init_389 rfl (by decide) ?_
  refine ev_iconst 390 dX12_init_390 kI_0 ?_
  refine ev_iconst 391 dX12_init_391 kI_1 ?_
  refine cv_12_205_12 (pc := 392) rfl dX12_init_392 (by decide +kernel) (Nat.le_of_ble_eq_true rfl) ?_
  refine ev_aload_n 0 dX12_put_0 rfl (by decide) ?_
  refine gf_12_116 (pc := 1) rfl dX12_put_1 (by decide +kernel) (hI.rr (x := some 107) (by decide) (by decide +kernel)) ?_
  refine ev_aload_n 4 dX12_put_4 rfl (by decide) ?_
  refine gf_12_110 (x := 160) (pc := 5) rfl dX12_put_5 (by decide +kernel) (hI.ri (by decide) (by decide +kernel)) ?_
  refine ev_iload_n 8 dX12_put_8 rfl ?_
  refine ev_iastJ (j := 160) 9 dX12_put_9 (Nat.le_of_ble_eq_true rfl) (tq (by decide) ty_107) (by decide) rfl ?_
  refine iv_put hI (by decide) (fun v hI => ?_)
  refine ev_aload_n 10 dX12_put_10 rfl (by decide) ?_
  refine gf_12_119 (pc := 11) rfl dX12_put_11 (by decide +kernel) (hI.rr (x := some 108) (by decide) (by decide +kernel)) ?_
  refine ev_aload_n 14 dX12_put_14 rfl (by decide) ?_
  refine gf_12_110 (x := 160) (pc := 15) rfl dX12_put_15 (by decide +kernel) (hI.ri (by decide) (by decide +kernel)) ?_
  refine ev_iload_n 18 dX12_put_18 rfl ?_
  refine ev_iastJ (j := 160) 19 dX12_put_19 (Nat.le_of_ble_eq_true rfl) (tq (by decide) ty_108) (by decide) rfl ?_
  refine iv_put hI (by decide) (fun v hI => ?_)
  refine ev_aload_n 20 dX12_put_20 rfl (by decide) ?_
  refine ev_dup 21 dX12_put_21 rfl ?_
  refine gf_12_110 (x := 160) (pc := 22) rfl dX12_put_22 (by decide +kernel) (hI.ri (by decide) (by decide +kernel)) ?_
  refine ev_iconst 25 dX12_put_25 kI_1 ?_
  refine ev_iadd 26 dX12_put_26 ?_
  refine ev_cst (y := 161) (by decide) ?_
  refine pf_12_110 (pc := 27) rfl dX12_put_27 (by decide +kernel) ?_
  refine iv_put hI (by decide) (fun v hI => ?_)
  refine ev_return 30 dX12_put_30 rfl ?_
  refine ev_aload_n 395 dX12_init_395 rfl (by decide) ?_
  refine gf_12_122 (pc := 396) rfl dX12_init_396 (by decide +kernel) (hI.rr (x := some 109) (by decide) (by decide +kernel)) ?_
  refine ev_iconst 399 dX12_init_399 kI_1 ?_
  refine ev_iconst 400 dX12_init_400 kI_1 ?_
  refine ev_iastJ (j := 1) 401 dX12_init_401 (Nat.le_of_ble_eq_true rfl) (tq (by decide) ty_109) (by decide) rfl ?_
  refine iv_put hI (by decide) (fun v hI => ?_)
  refine ev_aload_n 402 dX12_init_402 rfl (by decide) ?_
  refine ev_sipush 403 dX12_init_403 kS_320 ?_
  refine pf_12_110 (pc := 406) rfl dX12_init_406 (by decide +kernel) ?_
  refine iv_put hI (by decide) (fun v hI => ?_)
  refine ev_aload_n 409 dX12_init_409 rfl (by decide) ?_
  refine ev_iconst 410 dX12_init_410 kI_0 ?_
  refine ev_iconst 411 dX12_init_411 kI_0 ?_
  refine cv_12_205_12 (pc := 412) rfl dX12_init_412 (by decide +kernel) (Nat.le_of_ble_eq_true rfl) ?_
  refine ev_aload_n 0 dX12_put_0 rfl (by decide) ?_
  refine gf_12_116 (pc := 1) rfl dX12_put_1 (by decide +kernel) (hI.rr (x := some 107) (by decide) (by decide +kernel)) ?_
  refine ev_aload_n 4 dX12_put_4 rfl (by decide) ?_
  refine gf_12_110 (x := 320) (pc := 5) rfl dX12_put_5 (by decide +kernel) (hI.ri (by decide) (by decide +kernel)) ?_
  refine ev_iload_n 8 dX12_put_8 rfl ?_
  refine ev_iastJ (j := 320) 9 dX12_put_9 (Nat.le_of_ble_eq_true rfl) (tq (by decide) ty_107) (by decide) rfl ?_
  refine iv_put hI (by decide) (fun v hI => ?_)
  refine ev_aload_n 10 dX12_put_10 rfl (by decide) ?_
  refine gf_12_119 (pc := 11) rfl dX12_put_11 (by decide +kernel) (hI.rr (x := some 108) (by decide) (by decide +kernel)) ?_
  refine ev_aload_n 14 dX12_put_14 rfl (by decide) ?_
  refine gf_12_110 (x := 320) (pc := 15) rfl dX12_put_15 (by decide +kernel) (hI.ri (by decide) (by decide +kernel)) ?_
  refine ev_iload_n 18 dX12_put_18 rfl ?_
  refine ev_iastJ (j := 320) 19 dX12_put_19 (Nat.le_of_ble_eq_true rfl) (tq (by decide) ty_108) (by decide) rfl ?_
  refine iv_put hI (by decide) (fun v hI => ?_)
  refine ev_aload_n 20 dX12_put_20 rfl (by decide) ?_
  refine ev_dup 21 dX12_put_21 rfl ?_
  refine gf_12_110 (x := 320) (pc := 22) rfl dX12_put_22 (by decide +kernel) (hI.ri (by decide) (by decide +kernel)) ?_
  refine ev_iconst 25 dX12_put_25 kI_1 ?_
  refine ev_iadd 26 dX12_put_26 ?_
  refine ev_cst (y := 321) (by decide) ?_
  refine pf_12_110 (pc := 27) rfl dX12_put_27 (by decide +kernel) ?_
  refine iv_put hI (by decide) (fun v hI => ?_)
  refine ev_return 30 dX12_put_30 rfl ?_
  refine ev_aload_n 415 dX12_init_415 rfl (by decide) ?_
  refine gf_12_122 (pc := 416) rfl dX12_init_416 (by decide +kernel) (hI.rr (x := some 109) (by decide) (by decide +kernel)) ?_
  refine ev_iconst 419 dX12_init_419 kI_2 ?_
  refine ev_iconst 420 dX12_init_420 kI_1 ?_
  refine ev_iastJ (j := 2) 421 dX12_init_421 (Nat.le_of_ble_eq_true rfl) (tq (by decide) ty_109) (by decide) rfl ?_
  refine iv_put hI (by decide) (fun v hI => ?_)
  refine ev_aload_n 422 dX12_init_422 rfl (by decide) ?_
  refine ev_iconst 423 dX12_init_423 kI_1 ?_
  refine pf_12_83 (pc := 424) rfl dX12_init_424 (by decide +kernel) ?_
  refine iv_put hI (by decide) (fun v hI => ?_)
  refine ev_return 427 dX12_init_427 rfl ?_
  exact K v hI
theorem XI.in0 {b : pmV} (h : XI b) : IN 100 b [] [] (pmNew b 100) := by
  refine ⟨fun a j => ?_, fun a j => ?_, fun a j => ?_⟩
  · show (if a = 100 then 0 else b.1 a j) = _
    by_cases c : a = 100
    · rw [if_pos c, if_pos (by omega)]; rfl
    · rw [if_neg c]
      by_cases c2 : 100 ≤ a
      · rw [if_pos c2, h.2.2.1 a j (by omega), if_pos (by omega)]
        exact lkI_no (fun q hq e => by
          have : ∀ q ∈ iI0, q.1 < 100 := by decide
          have := this q hq
          omega) j
      · rw [if_neg c2]
  · show (if a = 100 then 0 else b.2.1 a j) = _
    by_cases c : a = 100
    · rw [if_pos c, if_pos (by omega)]
    · rw [if_neg c, h.2.1 a j]; split <;> rfl
  · show (if a = 100 then none else b.2.2 a j) = _
    by_cases c : a = 100
    · rw [if_pos c, if_pos (by omega)]; rfl
    · rw [if_neg c]
      by_cases c2 : 100 ≤ a
      · rw [if_pos c2, h.1 a j, if_neg (by omega), if_pos (by omega)]
        exact lkR_no (fun q hq e => by
          have : ∀ q ∈ iR0, q.1 < 100 := by decide
          have := this q hq
          omega) j
      · rw [if_neg c2]
theorem lk_a {I : List (Nat × Nat × Int32)} {a : Nat} (h : (I.all fun q => q.1 != a) = true) (j : Nat) : lkI I a j = 0 := lkI_no (fun q hq e => by
  have := List.all_eq_true.mp h q hq
  simp [e] at this) j
theorem Cpl.start {b v : pmV} (h : XI b) (hI : IN 100 b mI0 mR0 v) : Cpl 0 1 0 [] v := by
  obtain ⟨x1, x2, x3, x4, x5, x6, x7⟩ := h
  obtain ⟨i1, i2, i3⟩ := hI
  have lo : ∀ a j, a < 100 → v.1 a j = b.1 a j := fun a j ha => (i1 a j).trans (if_neg (by omega))
  have hi : ∀ a j, 100 ≤ a → v.1 a j = lkI mI0 a j := fun a j ha => (i1 a j).trans (if_pos ha)
  have lx : ∀ a j, 32 ≤ a → a < 100 → ¬ (41 ≤ a ∧ a ≤ 45 ∨ a = 69 ∨ a = 70 ∨ a = 32 ∧ j = 6) → v.1 a j = lkI iI0 a j := fun a j h1 h2 h3 => (lo a j h2).trans ((x3 a j h3).trans (if_pos h1))
  refine ⟨fun q hq => ?_, ⟨by decide, rfl, ?_, ?_, fun i hi => absurd hi (Nat.not_lt_zero i)⟩, ⟨fun j _ => ?_, fun j _ => ?_, ?_, ?_, ?_, ?_⟩, ⟨0, by decide, ?_, ?_⟩, ⟨?_, Or.inl ?_⟩, ⟨by decide, by decide, ?_, ?_, fun k hk => ?_⟩, ⟨by decide, ?_, ?_, fun i hi => absurd hi (Nat.not_lt_zero i)⟩, fun t ht => ⟨?_, ⟨0, by decide, ?_, ?_⟩, fun i _ => ?_⟩, ⟨?_, ?_⟩⟩
  · have hq2 : ∀ q ∈ pmRfL, (if 100 ≤ q.1 then lkR mR0 q.1 q.2.1 else if q.1 = 41 ∧ q.2.1 = 6 then some 68 else if 32 ≤ q.1 then lkR iR0 q.1 q.2.1 else none) = some q.2.2 := by decide +kernel
    rw [← hq2 q hq, i3, x1]
  · exact (lx 32 1 (by decide) (by decide) (by decide)).trans (by decide +kernel)
  · exact (hi 100 0 (by decide)).trans (by decide +kernel)
  · rw [hi 104 j (by decide), lx 35 j (by decide) (by decide) (by omega), lk_a (by decide +kernel), lk_a (by decide +kernel)]; decide
  · rw [hi 105 j (by decide), lx 36 j (by decide) (by decide) (by omega), lk_a (by decide +kernel), lk_a (by decide +kernel)]; decide
  · rw [hi 100 1 (by decide), lx 34 2 (by decide) (by decide) (by decide)]; decide +kernel
  · rw [hi 100 2 (by decide), lx 34 3 (by decide) (by decide) (by decide)]; decide +kernel
  · rw [hi 100 3 (by decide), lx 34 4 (by decide) (by decide) (by decide)]; decide +kernel
  · rw [hi 100 4 (by decide), lx 34 5 (by decide) (by decide) (by decide)]; decide +kernel
  · exact (lx 34 6 (by decide) (by decide) (by decide)).trans (by decide +kernel)
  · exact (hi 100 11 (by decide)).trans (by decide +kernel)
  · rw [hi 100 41 (by decide), lx 32 4 (by decide) (by decide) (by decide)]; decide +kernel
  · exact (lx 32 4 (by decide) (by decide) (by decide)).trans (by decide +kernel)
  · exact (lo 32 6 (by decide)).trans x5
  · exact (hi 100 10 (by decide)).trans (by decide +kernel)
  · have hk0 : k = 0 := by omega
    subst hk0
    have hP : ∀ (p : Nat) (c : List Int32), p < 3 → lkI mI0 109 (3 * 0 + p) = nI c.length → c.length ≤ 160 → (∀ i, i < c.length → codeOk (c.getD i 0) (lkI mI0 107 (480 * 0 + 160 * p + i)) (lkI mI0 108 (480 * 0 + 160 * p + i))) → PTS 0 p c v := fun p c _ h1 h2 h3 => ⟨(hi _ _ (by decide)).trans h1, h2, fun i hi' => by rw [hi 107 _ (by decide), hi 108 _ (by decide)]; exact h3 i hi'⟩
    refine txAll (c0 := [-1, 30, -14]) (c1 := [1]) (c2 := [0]) (by decide) (fun i h => (lo _ _ (by decide)).trans (x6 i h)) (fun p h => (lo _ _ (by decide)).trans (x7 p h)) (by decide) (by decide) (by decide) (hP 0 _ (by decide) (by decide +kernel) (by decide) ?_) (hP 1 _ (by decide) (by decide +kernel) (by decide) ?_) (hP 2 _ (by decide) (by decide +kernel) (by decide) ?_) <;> unfold codeOk <;> decide +kernel
  · exact (lo 41 1 (by decide)).trans x4
  · exact (hi 100 12 (by decide)).trans (by decide +kernel)
  · have h4 : ∀ t, t < 4 → lkI mI0 120 t = lkI iI0 (92 + 2 * t) 0 ∧ -1 ≤ lkI iI0 (92 + 2 * t) 0 ∧ lkI iI0 (92 + 2 * t) 0 ≤ 2 := by decide +kernel
    rw [hi 120 t (by decide), lx (92 + 2 * t) 0 (by omega) (by omega) (by omega)]; exact h4 t ht
  · have h4 : ∀ t, t < 4 → lkI iI0 (92 + 2 * t) 1 = nI 0 := by decide +kernel
    exact (lx (92 + 2 * t) 1 (by omega) (by omega) (by omega)).trans (h4 t ht)
  · have h4 : ∀ t, t < 4 → lkI mI0 121 t = nI 0 := by decide +kernel
    exact (hi 121 t (by decide)).trans (h4 t ht)
  · have h4 : ∀ t, t < 4 → (iI0.all fun q => q.1 != 93 + 2 * t) = true := by decide +kernel
    rw [hi 122 _ (by decide), lx (93 + 2 * t) i (by omega) (by omega) (by omega), lk_a (by decide +kernel), lk_a (h4 t ht)]
  · exact (hi 100 34 (by decide)).trans (by decide +kernel)
  · exact (hi 100 35 (by decide)).trans (by decide +kernel)
