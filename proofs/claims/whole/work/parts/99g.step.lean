/-! THE LAW: a step of its loop -/
theorem lgc_self (x : Int64) : lg_cmp x x = 0 := by unfold lg_cmp; rw [if_neg (show ¬ x > x from Int64.lt_irrefl), if_pos rfl]
theorem lw_lane {L : Nat} {xs : Nat → Int32} {i n tx z : Nat} {LT : pmT} {v : pmV} {P : Option Value → pmT → pmV → Prop} (hL : L ≤ 384) (h6 : i + 6 ≤ L) (hC : Cpl n tx z LT v) (K : ∀ n tx z LT v, Cpl n tx z LT v → EvP (L, xs) 1400 ML_law 963 [.ref 31, .ref 32, .ref 100, .int (nI i)] [] (pmT0 ++ LT) v P) : EvP (L, xs) 1400 ML_law 140 [.ref 31, .ref 32, .ref 100, .int (nI i)] [] (pmT0 ++ LT) v P := by
  refine ev_aload_n 140 dL_law_140 rfl (by decide) ?_
  refine ev_aload_n 141 dL_law_141 rfl (by decide) ?_
  refine ev_iload_n 142 dL_law_142 rfl ?_
  refine ev_iconst 143 dL_law_143 kI_1 ?_
  refine ev_iadd 144 dL_law_144 ?_
  refine ev_cst (y := nI (i + 1)) (nI_add i 1) ?_
  refine ev_ialdX (X := (L, xs)) (x := xs (i + 1)) 145 dL_law_145 (pm_inI (by omega) (by omega)) (congrArg xs (nI_clamp (by omega))) ?_
  refine ev_aload_n 146 dL_law_146 rfl (by decide) ?_
  refine ev_iload_n 147 dL_law_147 rfl ?_
  refine ev_iconst 148 dL_law_148 kI_2 ?_
  refine ev_iadd 149 dL_law_149 ?_
  refine ev_cst (y := nI (i + 2)) (nI_add i 2) ?_
  refine ev_ialdX (X := (L, xs)) (x := xs (i + 2)) 150 dL_law_150 (pm_inI (by omega) (by omega)) (congrArg xs (nI_clamp (by omega))) ?_
  refine ev_aload_n 151 dL_law_151 rfl (by decide) ?_
  refine ev_iload_n 152 dL_law_152 rfl ?_
  refine ev_iconst 153 dL_law_153 kI_3 ?_
  refine ev_iadd 154 dL_law_154 ?_
  refine ev_cst (y := nI (i + 3)) (nI_add i 3) ?_
  refine ev_ialdX (X := (L, xs)) (x := xs (i + 3)) 155 dL_law_155 (pm_inI (by omega) (by omega)) (congrArg xs (nI_clamp (by omega))) ?_
  refine cv_40_13_11 (pc := 156) rfl dL_law_156 kd_32 (Nat.le_of_ble_eq_true rfl) ?_
  refine EvP.aft (op_lane hC) rfl (fun x LT1 v1 hA => ?_)
  refine ev_aload_n 159 dL_law_159 rfl (by decide) ?_
  refine ev_aload_n 160 dL_law_160 rfl (by decide) ?_
  refine ev_iload_n 161 dL_law_161 rfl ?_
  refine ev_iconst 162 dL_law_162 kI_1 ?_
  refine ev_iadd 163 dL_law_163 ?_
  refine ev_cst (y := nI (i + 1)) (nI_add i 1) ?_
  refine ev_ialdX (X := (L, xs)) (x := xs (i + 1)) 164 dL_law_164 (pm_inI (by omega) (by omega)) (congrArg xs (nI_clamp (by omega))) ?_
  refine ev_aload_n 165 dL_law_165 rfl (by decide) ?_
  refine ev_iload_n 166 dL_law_166 rfl ?_
  refine ev_iconst 167 dL_law_167 kI_2 ?_
  refine ev_iadd 168 dL_law_168 ?_
  refine ev_cst (y := nI (i + 2)) (nI_add i 2) ?_
  refine ev_ialdX (X := (L, xs)) (x := xs (i + 2)) 169 dL_law_169 (pm_inI (by omega) (by omega)) (congrArg xs (nI_clamp (by omega))) ?_
  refine ev_aload_n 170 dL_law_170 rfl (by decide) ?_
  refine ev_iload_n 171 dL_law_171 rfl ?_
  refine ev_iconst 172 dL_law_172 kI_3 ?_
  refine ev_iadd 173 dL_law_173 ?_
  refine ev_cst (y := nI (i + 3)) (nI_add i 3) ?_
  refine ev_ialdX (X := (L, xs)) (x := xs (i + 3)) 174 dL_law_174 (pm_inI (by omega) (by omega)) (congrArg xs (nI_clamp (by omega))) ?_
  refine cv_40_17_12 (pc := 175) rfl dL_law_175 kd_100 (Nat.le_of_ble_eq_true rfl) ?_
  refine hA.go (fun n' t' z' LT' v2 hC' => ?_)
  refine ev_icT 178 963 dL_law_178 rfl (by simp [pmC2]) ?_
  exact K n' t' z' LT' v2 hC'
theorem lw_set {L : Nat} {xs : Nat → Int32} {i n tx z : Nat} {LT : pmT} {v : pmV} {P : Option Value → pmT → pmV → Prop} (hL : L ≤ 384) (h6 : i + 6 ≤ L) (hC : Cpl n tx z LT v) (K : ∀ n tx z LT v, Cpl n tx z LT v → EvP (L, xs) 1400 ML_law 963 [.ref 31, .ref 32, .ref 100, .int (nI i)] [] (pmT0 ++ LT) v P) : EvP (L, xs) 1400 ML_law 183 [.ref 31, .ref 32, .ref 100, .int (nI i)] [] (pmT0 ++ LT) v P := by
  refine ev_aload_n 183 dL_law_183 rfl (by decide) ?_
  refine ev_aload_n 184 dL_law_184 rfl (by decide) ?_
  refine ev_iload_n 185 dL_law_185 rfl ?_
  refine ev_iconst 186 dL_law_186 kI_1 ?_
  refine ev_iadd 187 dL_law_187 ?_
  refine ev_cst (y := nI (i + 1)) (nI_add i 1) ?_
  refine ev_ialdX (X := (L, xs)) (x := xs (i + 1)) 188 dL_law_188 (pm_inI (by omega) (by omega)) (congrArg xs (nI_clamp (by omega))) ?_
  refine ev_aload_n 189 dL_law_189 rfl (by decide) ?_
  refine ev_iload_n 190 dL_law_190 rfl ?_
  refine ev_iconst 191 dL_law_191 kI_2 ?_
  refine ev_iadd 192 dL_law_192 ?_
  refine ev_cst (y := nI (i + 2)) (nI_add i 2) ?_
  refine ev_ialdX (X := (L, xs)) (x := xs (i + 2)) 193 dL_law_193 (pm_inI (by omega) (by omega)) (congrArg xs (nI_clamp (by omega))) ?_
  refine ev_aload_n 194 dL_law_194 rfl (by decide) ?_
  refine ev_iload_n 195 dL_law_195 rfl ?_
  refine ev_iconst 196 dL_law_196 kI_3 ?_
  refine ev_iadd 197 dL_law_197 ?_
  refine ev_cst (y := nI (i + 3)) (nI_add i 3) ?_
  refine ev_ialdX (X := (L, xs)) (x := xs (i + 3)) 198 dL_law_198 (pm_inI (by omega) (by omega)) (congrArg xs (nI_clamp (by omega))) ?_
  refine cv_40_18_11 (pc := 199) rfl dL_law_199 kd_32 (Nat.le_of_ble_eq_true rfl) ?_
  refine EvP.aft (op_set hC) rfl (fun x LT1 v1 hA => ?_)
  refine ev_aload_n 202 dL_law_202 rfl (by decide) ?_
  refine ev_aload_n 203 dL_law_203 rfl (by decide) ?_
  refine ev_iload_n 204 dL_law_204 rfl ?_
  refine ev_iconst 205 dL_law_205 kI_1 ?_
  refine ev_iadd 206 dL_law_206 ?_
  refine ev_cst (y := nI (i + 1)) (nI_add i 1) ?_
  refine ev_ialdX (X := (L, xs)) (x := xs (i + 1)) 207 dL_law_207 (pm_inI (by omega) (by omega)) (congrArg xs (nI_clamp (by omega))) ?_
  refine ev_aload_n 208 dL_law_208 rfl (by decide) ?_
  refine ev_iload_n 209 dL_law_209 rfl ?_
  refine ev_iconst 210 dL_law_210 kI_2 ?_
  refine ev_iadd 211 dL_law_211 ?_
  refine ev_cst (y := nI (i + 2)) (nI_add i 2) ?_
  refine ev_ialdX (X := (L, xs)) (x := xs (i + 2)) 212 dL_law_212 (pm_inI (by omega) (by omega)) (congrArg xs (nI_clamp (by omega))) ?_
  refine ev_aload_n 213 dL_law_213 rfl (by decide) ?_
  refine ev_iload_n 214 dL_law_214 rfl ?_
  refine ev_iconst 215 dL_law_215 kI_3 ?_
  refine ev_iadd 216 dL_law_216 ?_
  refine ev_cst (y := nI (i + 3)) (nI_add i 3) ?_
  refine ev_ialdX (X := (L, xs)) (x := xs (i + 3)) 217 dL_law_217 (pm_inI (by omega) (by omega)) (congrArg xs (nI_clamp (by omega))) ?_
  refine cv_40_21_12 (pc := 218) rfl dL_law_218 kd_100 (Nat.le_of_ble_eq_true rfl) ?_
  refine hA.go (fun n' t' z' LT' v2 hC' => ?_)
  refine ev_icT 221 963 dL_law_221 rfl (by simp [pmC2]) ?_
  exact K n' t' z' LT' v2 hC'
theorem lw_come {L : Nat} {xs : Nat → Int32} {i n tx z : Nat} {LT : pmT} {v : pmV} {P : Option Value → pmT → pmV → Prop} (hL : L ≤ 384) (h6 : i + 6 ≤ L) (hC : Cpl n tx z LT v) (K : ∀ n tx z LT v, Cpl n tx z LT v → EvP (L, xs) 1400 ML_law 963 [.ref 31, .ref 32, .ref 100, .int (nI i)] [] (pmT0 ++ LT) v P) : EvP (L, xs) 1400 ML_law 226 [.ref 31, .ref 32, .ref 100, .int (nI i)] [] (pmT0 ++ LT) v P := by
  refine ev_aload_n 226 dL_law_226 rfl (by decide) ?_
  refine ev_aload_n 227 dL_law_227 rfl (by decide) ?_
  refine ev_iload_n 228 dL_law_228 rfl ?_
  refine ev_iconst 229 dL_law_229 kI_1 ?_
  refine ev_iadd 230 dL_law_230 ?_
  refine ev_cst (y := nI (i + 1)) (nI_add i 1) ?_
  refine ev_ialdX (X := (L, xs)) (x := xs (i + 1)) 231 dL_law_231 (pm_inI (by omega) (by omega)) (congrArg xs (nI_clamp (by omega))) ?_
  refine ev_aload_n 232 dL_law_232 rfl (by decide) ?_
  refine ev_iload_n 233 dL_law_233 rfl ?_
  refine ev_iconst 234 dL_law_234 kI_2 ?_
  refine ev_iadd 235 dL_law_235 ?_
  refine ev_cst (y := nI (i + 2)) (nI_add i 2) ?_
  refine ev_ialdX (X := (L, xs)) (x := xs (i + 2)) 236 dL_law_236 (pm_inI (by omega) (by omega)) (congrArg xs (nI_clamp (by omega))) ?_
  refine cv_40_22_11 (pc := 237) rfl dL_law_237 kd_32 (Nat.le_of_ble_eq_true rfl) ?_
  refine EvP.aft (op_come hC) rfl (fun x LT1 v1 hA => ?_)
  refine ev_aload_n 240 dL_law_240 rfl (by decide) ?_
  refine ev_aload_n 241 dL_law_241 rfl (by decide) ?_
  refine ev_iload_n 242 dL_law_242 rfl ?_
  refine ev_iconst 243 dL_law_243 kI_1 ?_
  refine ev_iadd 244 dL_law_244 ?_
  refine ev_cst (y := nI (i + 1)) (nI_add i 1) ?_
  refine ev_ialdX (X := (L, xs)) (x := xs (i + 1)) 245 dL_law_245 (pm_inI (by omega) (by omega)) (congrArg xs (nI_clamp (by omega))) ?_
  refine ev_aload_n 246 dL_law_246 rfl (by decide) ?_
  refine ev_iload_n 247 dL_law_247 rfl ?_
  refine ev_iconst 248 dL_law_248 kI_2 ?_
  refine ev_iadd 249 dL_law_249 ?_
  refine ev_cst (y := nI (i + 2)) (nI_add i 2) ?_
  refine ev_ialdX (X := (L, xs)) (x := xs (i + 2)) 250 dL_law_250 (pm_inI (by omega) (by omega)) (congrArg xs (nI_clamp (by omega))) ?_
  refine cv_40_26_12 (pc := 251) rfl dL_law_251 kd_100 (Nat.le_of_ble_eq_true rfl) ?_
  refine hA.go (fun n' t' z' LT' v2 hC' => ?_)
  refine ev_icT 254 963 dL_law_254 rfl (by simp [pmC2]) ?_
  exact K n' t' z' LT' v2 hC'
theorem lw_stop {L : Nat} {xs : Nat → Int32} {i n tx z : Nat} {LT : pmT} {v : pmV} {P : Option Value → pmT → pmV → Prop} (hL : L ≤ 384) (h6 : i + 6 ≤ L) (hC : Cpl n tx z LT v) (K : ∀ n tx z LT v, Cpl n tx z LT v → EvP (L, xs) 1400 ML_law 963 [.ref 31, .ref 32, .ref 100, .int (nI i)] [] (pmT0 ++ LT) v P) : EvP (L, xs) 1400 ML_law 259 [.ref 31, .ref 32, .ref 100, .int (nI i)] [] (pmT0 ++ LT) v P := by
  refine ev_aload_n 259 dL_law_259 rfl (by decide) ?_
  refine ev_aload_n 260 dL_law_260 rfl (by decide) ?_
  refine ev_iload_n 261 dL_law_261 rfl ?_
  refine ev_iconst 262 dL_law_262 kI_1 ?_
  refine ev_iadd 263 dL_law_263 ?_
  refine ev_cst (y := nI (i + 1)) (nI_add i 1) ?_
  refine ev_ialdX (X := (L, xs)) (x := xs (i + 1)) 264 dL_law_264 (pm_inI (by omega) (by omega)) (congrArg xs (nI_clamp (by omega))) ?_
  refine ev_aload_n 265 dL_law_265 rfl (by decide) ?_
  refine ev_iload_n 266 dL_law_266 rfl ?_
  refine ev_iconst 267 dL_law_267 kI_2 ?_
  refine ev_iadd 268 dL_law_268 ?_
  refine ev_cst (y := nI (i + 2)) (nI_add i 2) ?_
  refine ev_ialdX (X := (L, xs)) (x := xs (i + 2)) 269 dL_law_269 (pm_inI (by omega) (by omega)) (congrArg xs (nI_clamp (by omega))) ?_
  refine ev_aload_n 270 dL_law_270 rfl (by decide) ?_
  refine ev_iload_n 271 dL_law_271 rfl ?_
  refine ev_iconst 272 dL_law_272 kI_3 ?_
  refine ev_iadd 273 dL_law_273 ?_
  refine ev_cst (y := nI (i + 3)) (nI_add i 3) ?_
  refine ev_ialdX (X := (L, xs)) (x := xs (i + 3)) 274 dL_law_274 (pm_inI (by omega) (by omega)) (congrArg xs (nI_clamp (by omega))) ?_
  refine cv_40_27_11 (pc := 275) rfl dL_law_275 kd_32 (Nat.le_of_ble_eq_true rfl) ?_
  refine EvP.aft (op_stop hC) rfl (fun x LT1 v1 hA => ?_)
  refine ev_aload_n 278 dL_law_278 rfl (by decide) ?_
  refine ev_aload_n 279 dL_law_279 rfl (by decide) ?_
  refine ev_iload_n 280 dL_law_280 rfl ?_
  refine ev_iconst 281 dL_law_281 kI_1 ?_
  refine ev_iadd 282 dL_law_282 ?_
  refine ev_cst (y := nI (i + 1)) (nI_add i 1) ?_
  refine ev_ialdX (X := (L, xs)) (x := xs (i + 1)) 283 dL_law_283 (pm_inI (by omega) (by omega)) (congrArg xs (nI_clamp (by omega))) ?_
  refine ev_aload_n 284 dL_law_284 rfl (by decide) ?_
  refine ev_iload_n 285 dL_law_285 rfl ?_
  refine ev_iconst 286 dL_law_286 kI_2 ?_
  refine ev_iadd 287 dL_law_287 ?_
  refine ev_cst (y := nI (i + 2)) (nI_add i 2) ?_
  refine ev_ialdX (X := (L, xs)) (x := xs (i + 2)) 288 dL_law_288 (pm_inI (by omega) (by omega)) (congrArg xs (nI_clamp (by omega))) ?_
  refine ev_aload_n 289 dL_law_289 rfl (by decide) ?_
  refine ev_iload_n 290 dL_law_290 rfl ?_
  refine ev_iconst 291 dL_law_291 kI_3 ?_
  refine ev_iadd 292 dL_law_292 ?_
  refine ev_cst (y := nI (i + 3)) (nI_add i 3) ?_
  refine ev_ialdX (X := (L, xs)) (x := xs (i + 3)) 293 dL_law_293 (pm_inI (by omega) (by omega)) (congrArg xs (nI_clamp (by omega))) ?_
  refine cv_40_30_12 (pc := 294) rfl dL_law_294 kd_100 (Nat.le_of_ble_eq_true rfl) ?_
  refine hA.go (fun n' t' z' LT' v2 hC' => ?_)
  refine ev_icT 297 963 dL_law_297 rfl (by simp [pmC2]) ?_
  exact K n' t' z' LT' v2 hC'
theorem lw_told {L : Nat} {xs : Nat → Int32} {i n tx z : Nat} {LT : pmT} {v : pmV} {P : Option Value → pmT → pmV → Prop} (hL : L ≤ 384) (h6 : i + 6 ≤ L) (hC : Cpl n tx z LT v) (K : ∀ n tx z LT v, Cpl n tx z LT v → EvP (L, xs) 1400 ML_law 963 [.ref 31, .ref 32, .ref 100, .int (nI i)] [] (pmT0 ++ LT) v P) : EvP (L, xs) 1400 ML_law 302 [.ref 31, .ref 32, .ref 100, .int (nI i)] [] (pmT0 ++ LT) v P := by
  refine ev_aload_n 302 dL_law_302 rfl (by decide) ?_
  refine ev_aload_n 303 dL_law_303 rfl (by decide) ?_
  refine ev_iload_n 304 dL_law_304 rfl ?_
  refine ev_iconst 305 dL_law_305 kI_1 ?_
  refine ev_iadd 306 dL_law_306 ?_
  refine ev_cst (y := nI (i + 1)) (nI_add i 1) ?_
  refine ev_ialdX (X := (L, xs)) (x := xs (i + 1)) 307 dL_law_307 (pm_inI (by omega) (by omega)) (congrArg xs (nI_clamp (by omega))) ?_
  refine ev_aload_n 308 dL_law_308 rfl (by decide) ?_
  refine ev_iload_n 309 dL_law_309 rfl ?_
  refine ev_iconst 310 dL_law_310 kI_2 ?_
  refine ev_iadd 311 dL_law_311 ?_
  refine ev_cst (y := nI (i + 2)) (nI_add i 2) ?_
  refine ev_ialdX (X := (L, xs)) (x := xs (i + 2)) 312 dL_law_312 (pm_inI (by omega) (by omega)) (congrArg xs (nI_clamp (by omega))) ?_
  refine ev_aload_n 313 dL_law_313 rfl (by decide) ?_
  refine ev_iload_n 314 dL_law_314 rfl ?_
  refine ev_iconst 315 dL_law_315 kI_3 ?_
  refine ev_iadd 316 dL_law_316 ?_
  refine ev_cst (y := nI (i + 3)) (nI_add i 3) ?_
  refine ev_ialdX (X := (L, xs)) (x := xs (i + 3)) 317 dL_law_317 (pm_inI (by omega) (by omega)) (congrArg xs (nI_clamp (by omega))) ?_
  refine cv_40_31_11 (pc := 318) rfl dL_law_318 kd_32 (Nat.le_of_ble_eq_true rfl) ?_
  refine EvP.aft (op_told hC) rfl (fun x LT1 v1 hA => ?_)
  refine ev_aload_n 321 dL_law_321 rfl (by decide) ?_
  refine ev_aload_n 322 dL_law_322 rfl (by decide) ?_
  refine ev_iload_n 323 dL_law_323 rfl ?_
  refine ev_iconst 324 dL_law_324 kI_1 ?_
  refine ev_iadd 325 dL_law_325 ?_
  refine ev_cst (y := nI (i + 1)) (nI_add i 1) ?_
  refine ev_ialdX (X := (L, xs)) (x := xs (i + 1)) 326 dL_law_326 (pm_inI (by omega) (by omega)) (congrArg xs (nI_clamp (by omega))) ?_
  refine ev_aload_n 327 dL_law_327 rfl (by decide) ?_
  refine ev_iload_n 328 dL_law_328 rfl ?_
  refine ev_iconst 329 dL_law_329 kI_2 ?_
  refine ev_iadd 330 dL_law_330 ?_
  refine ev_cst (y := nI (i + 2)) (nI_add i 2) ?_
  refine ev_ialdX (X := (L, xs)) (x := xs (i + 2)) 331 dL_law_331 (pm_inI (by omega) (by omega)) (congrArg xs (nI_clamp (by omega))) ?_
  refine ev_aload_n 332 dL_law_332 rfl (by decide) ?_
  refine ev_iload_n 333 dL_law_333 rfl ?_
  refine ev_iconst 334 dL_law_334 kI_3 ?_
  refine ev_iadd 335 dL_law_335 ?_
  refine ev_cst (y := nI (i + 3)) (nI_add i 3) ?_
  refine ev_ialdX (X := (L, xs)) (x := xs (i + 3)) 336 dL_law_336 (pm_inI (by omega) (by omega)) (congrArg xs (nI_clamp (by omega))) ?_
  refine cv_40_34_12 (pc := 337) rfl dL_law_337 kd_100 (Nat.le_of_ble_eq_true rfl) ?_
  refine hA.go (fun n' t' z' LT' v2 hC' => ?_)
  refine ev_icT 340 963 dL_law_340 rfl (by simp [pmC2]) ?_
  exact K n' t' z' LT' v2 hC'
theorem lw_feed {L : Nat} {xs : Nat → Int32} {i n tx z : Nat} {LT : pmT} {v : pmV} {P : Option Value → pmT → pmV → Prop} (hL : L ≤ 384) (h6 : i + 6 ≤ L) (hC : Cpl n tx z LT v) (K : ∀ n tx z LT v, Cpl n tx z LT v → EvP (L, xs) 1400 ML_law 963 [.ref 31, .ref 32, .ref 100, .int (nI i)] [] (pmT0 ++ LT) v P) : EvP (L, xs) 1400 ML_law 345 [.ref 31, .ref 32, .ref 100, .int (nI i)] [] (pmT0 ++ LT) v P := by
  refine ev_aload_n 345 dL_law_345 rfl (by decide) ?_
  refine ev_aload_n 346 dL_law_346 rfl (by decide) ?_
  refine ev_iload_n 347 dL_law_347 rfl ?_
  refine ev_iconst 348 dL_law_348 kI_1 ?_
  refine ev_iadd 349 dL_law_349 ?_
  refine ev_cst (y := nI (i + 1)) (nI_add i 1) ?_
  refine ev_ialdX (X := (L, xs)) (x := xs (i + 1)) 350 dL_law_350 (pm_inI (by omega) (by omega)) (congrArg xs (nI_clamp (by omega))) ?_
  refine ev_aload_n 351 dL_law_351 rfl (by decide) ?_
  refine ev_iload_n 352 dL_law_352 rfl ?_
  refine ev_iconst 353 dL_law_353 kI_2 ?_
  refine ev_iadd 354 dL_law_354 ?_
  refine ev_cst (y := nI (i + 2)) (nI_add i 2) ?_
  refine ev_ialdX (X := (L, xs)) (x := xs (i + 2)) 355 dL_law_355 (pm_inI (by omega) (by omega)) (congrArg xs (nI_clamp (by omega))) ?_
  refine ev_i2l 356 dL_law_356 ?_
  refine ev_bipush 357 dL_law_357 kB_32 ?_
  refine ev_lshl 359 dL_law_359 ?_
  refine ev_aload_n 360 dL_law_360 rfl (by decide) ?_
  refine ev_iload_n 361 dL_law_361 rfl ?_
  refine ev_iconst 362 dL_law_362 kI_3 ?_
  refine ev_iadd 363 dL_law_363 ?_
  refine ev_cst (y := nI (i + 3)) (nI_add i 3) ?_
  refine ev_ialdX (X := (L, xs)) (x := xs (i + 3)) 364 dL_law_364 (pm_inI (by omega) (by omega)) (congrArg xs (nI_clamp (by omega))) ?_
  refine ev_i2l 365 dL_law_365 ?_
  refine ev_ldc2 366 dL_law_366 l2_40_35 ?_
  refine ev_land 369 dL_law_369 ?_
  refine ev_lor 370 dL_law_370 ?_
  refine cv_40_37_11 (pc := 371) rfl dL_law_371 kd_32 (Nat.le_of_ble_eq_true rfl) ?_
  refine EvP.aft (op_feed hC) rfl (fun x LT1 v1 hA => ?_)
  refine ev_aload_n 374 dL_law_374 rfl (by decide) ?_
  refine ev_aload_n 375 dL_law_375 rfl (by decide) ?_
  refine ev_iload_n 376 dL_law_376 rfl ?_
  refine ev_iconst 377 dL_law_377 kI_1 ?_
  refine ev_iadd 378 dL_law_378 ?_
  refine ev_cst (y := nI (i + 1)) (nI_add i 1) ?_
  refine ev_ialdX (X := (L, xs)) (x := xs (i + 1)) 379 dL_law_379 (pm_inI (by omega) (by omega)) (congrArg xs (nI_clamp (by omega))) ?_
  refine ev_aload_n 380 dL_law_380 rfl (by decide) ?_
  refine ev_iload_n 381 dL_law_381 rfl ?_
  refine ev_iconst 382 dL_law_382 kI_2 ?_
  refine ev_iadd 383 dL_law_383 ?_
  refine ev_cst (y := nI (i + 2)) (nI_add i 2) ?_
  refine ev_ialdX (X := (L, xs)) (x := xs (i + 2)) 384 dL_law_384 (pm_inI (by omega) (by omega)) (congrArg xs (nI_clamp (by omega))) ?_
  refine ev_i2l 385 dL_law_385 ?_
  refine ev_bipush 386 dL_law_386 kB_32 ?_
  refine ev_lshl 388 dL_law_388 ?_
  refine ev_aload_n 389 dL_law_389 rfl (by decide) ?_
  refine ev_iload_n 390 dL_law_390 rfl ?_
  refine ev_iconst 391 dL_law_391 kI_3 ?_
  refine ev_iadd 392 dL_law_392 ?_
  refine ev_cst (y := nI (i + 3)) (nI_add i 3) ?_
  refine ev_ialdX (X := (L, xs)) (x := xs (i + 3)) 393 dL_law_393 (pm_inI (by omega) (by omega)) (congrArg xs (nI_clamp (by omega))) ?_
  refine ev_i2l 394 dL_law_394 ?_
  refine ev_ldc2 395 dL_law_395 l2_40_35 ?_
  refine ev_land 398 dL_law_398 ?_
  refine ev_lor 399 dL_law_399 ?_
  refine cv_40_41_12 (pc := 400) rfl dL_law_400 kd_100 (Nat.le_of_ble_eq_true rfl) ?_
  refine hA.go (fun n' t' z' LT' v2 hC' => ?_)
  refine ev_icT 403 963 dL_law_403 rfl (by simp [pmC2]) ?_
  exact K n' t' z' LT' v2 hC'
theorem lw_text {L : Nat} {xs : Nat → Int32} {i n tx z : Nat} {LT : pmT} {v : pmV} {P : Option Value → pmT → pmV → Prop} (hL : L ≤ 384) (h6 : i + 6 ≤ L) (hC : Cpl n tx z LT v) (K : ∀ n tx z LT v, Cpl n tx z LT v → EvP (L, xs) 1400 ML_law 963 [.ref 31, .ref 32, .ref 100, .int (nI i)] [] (pmT0 ++ LT) v P) : EvP (L, xs) 1400 ML_law 408 [.ref 31, .ref 32, .ref 100, .int (nI i)] [] (pmT0 ++ LT) v P := by
  refine ev_aload_n 408 dL_law_408 rfl (by decide) ?_
  refine cv_40_42_11 (pc := 409) rfl dL_law_409 kd_32 (Nat.le_of_ble_eq_true rfl) ?_
  refine EvP.aft (op_text hC) rfl (fun x LT1 v1 hA => ?_)
  refine ev_aload_n 412 dL_law_412 rfl (by decide) ?_
  refine cv_40_46_12 (pc := 413) rfl dL_law_413 kd_100 (Nat.le_of_ble_eq_true rfl) ?_
  refine hA.go (fun n' t' z' LT' v2 hC' => ?_)
  refine ev_icT 416 963 dL_law_416 rfl (by simp [pmC2]) ?_
  exact K n' t' z' LT' v2 hC'
theorem lw_force {L : Nat} {xs : Nat → Int32} {i n tx z : Nat} {LT : pmT} {v : pmV} {P : Option Value → pmT → pmV → Prop} (hL : L ≤ 384) (h6 : i + 6 ≤ L) (hC : Cpl n tx z LT v) (K : ∀ n tx z LT v, Cpl n tx z LT v → EvP (L, xs) 1400 ML_law 963 [.ref 31, .ref 32, .ref 100, .int (nI i)] [] (pmT0 ++ LT) v P) : EvP (L, xs) 1400 ML_law 421 [.ref 31, .ref 32, .ref 100, .int (nI i)] [] (pmT0 ++ LT) v P := by
  refine ev_aload_n 421 dL_law_421 rfl (by decide) ?_
  refine ev_aload_n 422 dL_law_422 rfl (by decide) ?_
  refine ev_iload_n 423 dL_law_423 rfl ?_
  refine ev_iconst 424 dL_law_424 kI_1 ?_
  refine ev_iadd 425 dL_law_425 ?_
  refine ev_cst (y := nI (i + 1)) (nI_add i 1) ?_
  refine ev_ialdX (X := (L, xs)) (x := xs (i + 1)) 426 dL_law_426 (pm_inI (by omega) (by omega)) (congrArg xs (nI_clamp (by omega))) ?_
  refine cv_40_47_11 (pc := 427) rfl dL_law_427 kd_32 (Nat.le_of_ble_eq_true rfl) ?_
  refine EvP.aft (op_force hC) rfl (fun x LT1 v1 hA => ?_)
  refine ev_aload_n 430 dL_law_430 rfl (by decide) ?_
  refine ev_aload_n 431 dL_law_431 rfl (by decide) ?_
  refine ev_iload_n 432 dL_law_432 rfl ?_
  refine ev_iconst 433 dL_law_433 kI_1 ?_
  refine ev_iadd 434 dL_law_434 ?_
  refine ev_cst (y := nI (i + 1)) (nI_add i 1) ?_
  refine ev_ialdX (X := (L, xs)) (x := xs (i + 1)) 435 dL_law_435 (pm_inI (by omega) (by omega)) (congrArg xs (nI_clamp (by omega))) ?_
  refine cv_40_51_12 (pc := 436) rfl dL_law_436 kd_100 (Nat.le_of_ble_eq_true rfl) ?_
  refine hA.go (fun n' t' z' LT' v2 hC' => ?_)
  refine ev_icT 439 963 dL_law_439 rfl (by simp [pmC2]) ?_
  exact K n' t' z' LT' v2 hC'
theorem lw_waited {L : Nat} {xs : Nat → Int32} {i n tx z : Nat} {LT : pmT} {v : pmV} {P : Option Value → pmT → pmV → Prop} (hL : L ≤ 384) (h6 : i + 6 ≤ L) (hC : Cpl n tx z LT v) (K : ∀ n tx z LT v, Cpl n tx z LT v → EvP (L, xs) 1400 ML_law 963 [.ref 31, .ref 32, .ref 100, .int (nI i)] [] (pmT0 ++ LT) v P) : EvP (L, xs) 1400 ML_law 444 [.ref 31, .ref 32, .ref 100, .int (nI i)] [] (pmT0 ++ LT) v P := by
  refine ev_aload_n 444 dL_law_444 rfl (by decide) ?_
  refine ev_aload_n 445 dL_law_445 rfl (by decide) ?_
  refine ev_iload_n 446 dL_law_446 rfl ?_
  refine ev_iconst 447 dL_law_447 kI_1 ?_
  refine ev_iadd 448 dL_law_448 ?_
  refine ev_cst (y := nI (i + 1)) (nI_add i 1) ?_
  refine ev_ialdX (X := (L, xs)) (x := xs (i + 1)) 449 dL_law_449 (pm_inI (by omega) (by omega)) (congrArg xs (nI_clamp (by omega))) ?_
  refine ev_aload_n 450 dL_law_450 rfl (by decide) ?_
  refine ev_iload_n 451 dL_law_451 rfl ?_
  refine ev_iconst 452 dL_law_452 kI_2 ?_
  refine ev_iadd 453 dL_law_453 ?_
  refine ev_cst (y := nI (i + 2)) (nI_add i 2) ?_
  refine ev_ialdX (X := (L, xs)) (x := xs (i + 2)) 454 dL_law_454 (pm_inI (by omega) (by omega)) (congrArg xs (nI_clamp (by omega))) ?_
  refine cv_40_52_11 (pc := 455) rfl dL_law_455 kd_32 (Nat.le_of_ble_eq_true rfl) ?_
  refine EvP.aftl (op_waited hC) rfl noI_waited (fun x LT1 v1 hA => ?_)
  refine ev_aload_n 458 dL_law_458 rfl (by decide) ?_
  refine ev_aload_n 459 dL_law_459 rfl (by decide) ?_
  refine ev_iload_n 460 dL_law_460 rfl ?_
  refine ev_iconst 461 dL_law_461 kI_1 ?_
  refine ev_iadd 462 dL_law_462 ?_
  refine ev_cst (y := nI (i + 1)) (nI_add i 1) ?_
  refine ev_ialdX (X := (L, xs)) (x := xs (i + 1)) 463 dL_law_463 (pm_inI (by omega) (by omega)) (congrArg xs (nI_clamp (by omega))) ?_
  refine ev_aload_n 464 dL_law_464 rfl (by decide) ?_
  refine ev_iload_n 465 dL_law_465 rfl ?_
  refine ev_iconst 466 dL_law_466 kI_2 ?_
  refine ev_iadd 467 dL_law_467 ?_
  refine ev_cst (y := nI (i + 2)) (nI_add i 2) ?_
  refine ev_ialdX (X := (L, xs)) (x := xs (i + 2)) 468 dL_law_468 (pm_inI (by omega) (by omega)) (congrArg xs (nI_clamp (by omega))) ?_
  refine cv_40_56_12 (pc := 469) rfl dL_law_469 kd_100 (Nat.le_of_ble_eq_true rfl) ?_
  refine hA.go (fun n' t' z' LT' v2 hC' => ?_)
  refine ev_lcmp 472 dL_law_472 ?_
  refine ev_cst (y := 0) (lgc_self x) ?_
  refine ev_ifT 473 963 dL_law_473 rfl (by decide) ?_
  exact K n' t' z' LT' v2 hC'
theorem lw_day {L : Nat} {xs : Nat → Int32} {i n tx z : Nat} {LT : pmT} {v : pmV} {P : Option Value → pmT → pmV → Prop} (hL : L ≤ 384) (h6 : i + 6 ≤ L) (hC : Cpl n tx z LT v) (K : ∀ n tx z LT v, Cpl n tx z LT v → EvP (L, xs) 1400 ML_law 963 [.ref 31, .ref 32, .ref 100, .int (nI i)] [] (pmT0 ++ LT) v P) : EvP (L, xs) 1400 ML_law 478 [.ref 31, .ref 32, .ref 100, .int (nI i)] [] (pmT0 ++ LT) v P := by
  refine ev_aload_n 478 dL_law_478 rfl (by decide) ?_
  refine ev_aload_n 479 dL_law_479 rfl (by decide) ?_
  refine ev_iload_n 480 dL_law_480 rfl ?_
  refine ev_iconst 481 dL_law_481 kI_1 ?_
  refine ev_iadd 482 dL_law_482 ?_
  refine ev_cst (y := nI (i + 1)) (nI_add i 1) ?_
  refine ev_ialdX (X := (L, xs)) (x := xs (i + 1)) 483 dL_law_483 (pm_inI (by omega) (by omega)) (congrArg xs (nI_clamp (by omega))) ?_
  refine ev_aload_n 484 dL_law_484 rfl (by decide) ?_
  refine ev_iload_n 485 dL_law_485 rfl ?_
  refine ev_iconst 486 dL_law_486 kI_2 ?_
  refine ev_iadd 487 dL_law_487 ?_
  refine ev_cst (y := nI (i + 2)) (nI_add i 2) ?_
  refine ev_ialdX (X := (L, xs)) (x := xs (i + 2)) 488 dL_law_488 (pm_inI (by omega) (by omega)) (congrArg xs (nI_clamp (by omega))) ?_
  refine ev_aload_n 489 dL_law_489 rfl (by decide) ?_
  refine ev_iload_n 490 dL_law_490 rfl ?_
  refine ev_iconst 491 dL_law_491 kI_3 ?_
  refine ev_iadd 492 dL_law_492 ?_
  refine ev_cst (y := nI (i + 3)) (nI_add i 3) ?_
  refine ev_ialdX (X := (L, xs)) (x := xs (i + 3)) 493 dL_law_493 (pm_inI (by omega) (by omega)) (congrArg xs (nI_clamp (by omega))) ?_
  refine cv_40_57_11 (pc := 494) rfl dL_law_494 kd_32 (Nat.le_of_ble_eq_true rfl) ?_
  refine EvP.aft (op_day hC) rfl (fun x LT1 v1 hA => ?_)
  refine ev_aload_n 497 dL_law_497 rfl (by decide) ?_
  refine ev_aload_n 498 dL_law_498 rfl (by decide) ?_
  refine ev_iload_n 499 dL_law_499 rfl ?_
  refine ev_iconst 500 dL_law_500 kI_1 ?_
  refine ev_iadd 501 dL_law_501 ?_
  refine ev_cst (y := nI (i + 1)) (nI_add i 1) ?_
  refine ev_ialdX (X := (L, xs)) (x := xs (i + 1)) 502 dL_law_502 (pm_inI (by omega) (by omega)) (congrArg xs (nI_clamp (by omega))) ?_
  refine ev_aload_n 503 dL_law_503 rfl (by decide) ?_
  refine ev_iload_n 504 dL_law_504 rfl ?_
  refine ev_iconst 505 dL_law_505 kI_2 ?_
  refine ev_iadd 506 dL_law_506 ?_
  refine ev_cst (y := nI (i + 2)) (nI_add i 2) ?_
  refine ev_ialdX (X := (L, xs)) (x := xs (i + 2)) 507 dL_law_507 (pm_inI (by omega) (by omega)) (congrArg xs (nI_clamp (by omega))) ?_
  refine ev_aload_n 508 dL_law_508 rfl (by decide) ?_
  refine ev_iload_n 509 dL_law_509 rfl ?_
  refine ev_iconst 510 dL_law_510 kI_3 ?_
  refine ev_iadd 511 dL_law_511 ?_
  refine ev_cst (y := nI (i + 3)) (nI_add i 3) ?_
  refine ev_ialdX (X := (L, xs)) (x := xs (i + 3)) 512 dL_law_512 (pm_inI (by omega) (by omega)) (congrArg xs (nI_clamp (by omega))) ?_
  refine cv_40_60_12 (pc := 513) rfl dL_law_513 kd_100 (Nat.le_of_ble_eq_true rfl) ?_
  refine hA.go (fun n' t' z' LT' v2 hC' => ?_)
  refine ev_icT 516 963 dL_law_516 rfl (by simp [pmC2]) ?_
  exact K n' t' z' LT' v2 hC'
theorem lw_best {L : Nat} {xs : Nat → Int32} {i n tx z : Nat} {LT : pmT} {v : pmV} {P : Option Value → pmT → pmV → Prop} (hL : L ≤ 384) (h6 : i + 6 ≤ L) (hC : Cpl n tx z LT v) (K : ∀ n tx z LT v, Cpl n tx z LT v → EvP (L, xs) 1400 ML_law 963 [.ref 31, .ref 32, .ref 100, .int (nI i)] [] (pmT0 ++ LT) v P) : EvP (L, xs) 1400 ML_law 521 [.ref 31, .ref 32, .ref 100, .int (nI i)] [] (pmT0 ++ LT) v P := by
  refine ev_aload_n 521 dL_law_521 rfl (by decide) ?_
  refine ev_aload_n 522 dL_law_522 rfl (by decide) ?_
  refine ev_iload_n 523 dL_law_523 rfl ?_
  refine ev_iconst 524 dL_law_524 kI_1 ?_
  refine ev_iadd 525 dL_law_525 ?_
  refine ev_cst (y := nI (i + 1)) (nI_add i 1) ?_
  refine ev_ialdX (X := (L, xs)) (x := xs (i + 1)) 526 dL_law_526 (pm_inI (by omega) (by omega)) (congrArg xs (nI_clamp (by omega))) ?_
  refine ev_aload_n 527 dL_law_527 rfl (by decide) ?_
  refine ev_iload_n 528 dL_law_528 rfl ?_
  refine ev_iconst 529 dL_law_529 kI_2 ?_
  refine ev_iadd 530 dL_law_530 ?_
  refine ev_cst (y := nI (i + 2)) (nI_add i 2) ?_
  refine ev_ialdX (X := (L, xs)) (x := xs (i + 2)) 531 dL_law_531 (pm_inI (by omega) (by omega)) (congrArg xs (nI_clamp (by omega))) ?_
  refine cv_40_61_11 (pc := 532) rfl dL_law_532 kd_32 (Nat.le_of_ble_eq_true rfl) ?_
  refine EvP.aftl (op_best hC) rfl noI_best (fun x LT1 v1 hA => ?_)
  refine ev_aload_n 535 dL_law_535 rfl (by decide) ?_
  refine ev_aload_n 536 dL_law_536 rfl (by decide) ?_
  refine ev_iload_n 537 dL_law_537 rfl ?_
  refine ev_iconst 538 dL_law_538 kI_1 ?_
  refine ev_iadd 539 dL_law_539 ?_
  refine ev_cst (y := nI (i + 1)) (nI_add i 1) ?_
  refine ev_ialdX (X := (L, xs)) (x := xs (i + 1)) 540 dL_law_540 (pm_inI (by omega) (by omega)) (congrArg xs (nI_clamp (by omega))) ?_
  refine ev_aload_n 541 dL_law_541 rfl (by decide) ?_
  refine ev_iload_n 542 dL_law_542 rfl ?_
  refine ev_iconst 543 dL_law_543 kI_2 ?_
  refine ev_iadd 544 dL_law_544 ?_
  refine ev_cst (y := nI (i + 2)) (nI_add i 2) ?_
  refine ev_ialdX (X := (L, xs)) (x := xs (i + 2)) 545 dL_law_545 (pm_inI (by omega) (by omega)) (congrArg xs (nI_clamp (by omega))) ?_
  refine cv_40_64_12 (pc := 546) rfl dL_law_546 kd_100 (Nat.le_of_ble_eq_true rfl) ?_
  refine hA.go (fun n' t' z' LT' v2 hC' => ?_)
  refine ev_lcmp 549 dL_law_549 ?_
  refine ev_cst (y := 0) (lgc_self x) ?_
  refine ev_ifT 550 963 dL_law_550 rfl (by decide) ?_
  exact K n' t' z' LT' v2 hC'
theorem lw_two {L : Nat} {xs : Nat → Int32} {i n tx z : Nat} {LT : pmT} {v : pmV} {P : Option Value → pmT → pmV → Prop} (hL : L ≤ 384) (h6 : i + 6 ≤ L) (hC : Cpl n tx z LT v) (K : ∀ n tx z LT v, Cpl n tx z LT v → EvP (L, xs) 1400 ML_law 963 [.ref 31, .ref 32, .ref 100, .int (nI i)] [] (pmT0 ++ LT) v P) : EvP (L, xs) 1400 ML_law 555 [.ref 31, .ref 32, .ref 100, .int (nI i)] [] (pmT0 ++ LT) v P := by
  refine ev_aload_n 555 dL_law_555 rfl (by decide) ?_
  refine ev_aload_n 556 dL_law_556 rfl (by decide) ?_
  refine ev_iload_n 557 dL_law_557 rfl ?_
  refine ev_iconst 558 dL_law_558 kI_1 ?_
  refine ev_iadd 559 dL_law_559 ?_
  refine ev_cst (y := nI (i + 1)) (nI_add i 1) ?_
  refine ev_ialdX (X := (L, xs)) (x := xs (i + 1)) 560 dL_law_560 (pm_inI (by omega) (by omega)) (congrArg xs (nI_clamp (by omega))) ?_
  refine ev_aload_n 561 dL_law_561 rfl (by decide) ?_
  refine ev_iload_n 562 dL_law_562 rfl ?_
  refine ev_iconst 563 dL_law_563 kI_2 ?_
  refine ev_iadd 564 dL_law_564 ?_
  refine ev_cst (y := nI (i + 2)) (nI_add i 2) ?_
  refine ev_ialdX (X := (L, xs)) (x := xs (i + 2)) 565 dL_law_565 (pm_inI (by omega) (by omega)) (congrArg xs (nI_clamp (by omega))) ?_
  refine cv_40_65_11 (pc := 566) rfl dL_law_566 kd_32 (Nat.le_of_ble_eq_true rfl) ?_
  refine EvP.aftl (op_two hC) rfl noI_two (fun x LT1 v1 hA => ?_)
  refine ev_aload_n 569 dL_law_569 rfl (by decide) ?_
  refine ev_aload_n 570 dL_law_570 rfl (by decide) ?_
  refine ev_iload_n 571 dL_law_571 rfl ?_
  refine ev_iconst 572 dL_law_572 kI_1 ?_
  refine ev_iadd 573 dL_law_573 ?_
  refine ev_cst (y := nI (i + 1)) (nI_add i 1) ?_
  refine ev_ialdX (X := (L, xs)) (x := xs (i + 1)) 574 dL_law_574 (pm_inI (by omega) (by omega)) (congrArg xs (nI_clamp (by omega))) ?_
  refine ev_aload_n 575 dL_law_575 rfl (by decide) ?_
  refine ev_iload_n 576 dL_law_576 rfl ?_
  refine ev_iconst 577 dL_law_577 kI_2 ?_
  refine ev_iadd 578 dL_law_578 ?_
  refine ev_cst (y := nI (i + 2)) (nI_add i 2) ?_
  refine ev_ialdX (X := (L, xs)) (x := xs (i + 2)) 579 dL_law_579 (pm_inI (by omega) (by omega)) (congrArg xs (nI_clamp (by omega))) ?_
  refine cv_40_68_12 (pc := 580) rfl dL_law_580 kd_100 (Nat.le_of_ble_eq_true rfl) ?_
  refine hA.go (fun n' t' z' LT' v2 hC' => ?_)
  refine ev_lcmp 583 dL_law_583 ?_
  refine ev_cst (y := 0) (lgc_self x) ?_
  refine ev_ifT 584 963 dL_law_584 rfl (by decide) ?_
  exact K n' t' z' LT' v2 hC'
theorem lw_enough {L : Nat} {xs : Nat → Int32} {i n tx z : Nat} {LT : pmT} {v : pmV} {P : Option Value → pmT → pmV → Prop} (hL : L ≤ 384) (h6 : i + 6 ≤ L) (hC : Cpl n tx z LT v) (K : ∀ n tx z LT v, Cpl n tx z LT v → EvP (L, xs) 1400 ML_law 963 [.ref 31, .ref 32, .ref 100, .int (nI i)] [] (pmT0 ++ LT) v P) : EvP (L, xs) 1400 ML_law 589 [.ref 31, .ref 32, .ref 100, .int (nI i)] [] (pmT0 ++ LT) v P := by
  refine ev_aload_n 589 dL_law_589 rfl (by decide) ?_
  refine ev_aload_n 590 dL_law_590 rfl (by decide) ?_
  refine ev_iload_n 591 dL_law_591 rfl ?_
  refine ev_iconst 592 dL_law_592 kI_1 ?_
  refine ev_iadd 593 dL_law_593 ?_
  refine ev_cst (y := nI (i + 1)) (nI_add i 1) ?_
  refine ev_ialdX (X := (L, xs)) (x := xs (i + 1)) 594 dL_law_594 (pm_inI (by omega) (by omega)) (congrArg xs (nI_clamp (by omega))) ?_
  refine ev_aload_n 595 dL_law_595 rfl (by decide) ?_
  refine ev_iload_n 596 dL_law_596 rfl ?_
  refine ev_iconst 597 dL_law_597 kI_2 ?_
  refine ev_iadd 598 dL_law_598 ?_
  refine ev_cst (y := nI (i + 2)) (nI_add i 2) ?_
  refine ev_ialdX (X := (L, xs)) (x := xs (i + 2)) 599 dL_law_599 (pm_inI (by omega) (by omega)) (congrArg xs (nI_clamp (by omega))) ?_
  refine cv_40_69_11 (pc := 600) rfl dL_law_600 kd_32 (Nat.le_of_ble_eq_true rfl) ?_
  refine EvP.aft (op_enough hC) rfl (fun x LT1 v1 hA => ?_)
  refine ev_aload_n 603 dL_law_603 rfl (by decide) ?_
  refine ev_aload_n 604 dL_law_604 rfl (by decide) ?_
  refine ev_iload_n 605 dL_law_605 rfl ?_
  refine ev_iconst 606 dL_law_606 kI_1 ?_
  refine ev_iadd 607 dL_law_607 ?_
  refine ev_cst (y := nI (i + 1)) (nI_add i 1) ?_
  refine ev_ialdX (X := (L, xs)) (x := xs (i + 1)) 608 dL_law_608 (pm_inI (by omega) (by omega)) (congrArg xs (nI_clamp (by omega))) ?_
  refine ev_aload_n 609 dL_law_609 rfl (by decide) ?_
  refine ev_iload_n 610 dL_law_610 rfl ?_
  refine ev_iconst 611 dL_law_611 kI_2 ?_
  refine ev_iadd 612 dL_law_612 ?_
  refine ev_cst (y := nI (i + 2)) (nI_add i 2) ?_
  refine ev_ialdX (X := (L, xs)) (x := xs (i + 2)) 613 dL_law_613 (pm_inI (by omega) (by omega)) (congrArg xs (nI_clamp (by omega))) ?_
  refine cv_40_72_12 (pc := 614) rfl dL_law_614 kd_100 (Nat.le_of_ble_eq_true rfl) ?_
  refine hA.go (fun n' t' z' LT' v2 hC' => ?_)
  refine ev_icT 617 963 dL_law_617 rfl (by simp [pmC2]) ?_
  exact K n' t' z' LT' v2 hC'
theorem lw_worth {L : Nat} {xs : Nat → Int32} {i n tx z : Nat} {LT : pmT} {v : pmV} {P : Option Value → pmT → pmV → Prop} (hL : L ≤ 384) (h6 : i + 6 ≤ L) (hC : Cpl n tx z LT v) (K : ∀ n tx z LT v, Cpl n tx z LT v → EvP (L, xs) 1400 ML_law 963 [.ref 31, .ref 32, .ref 100, .int (nI i)] [] (pmT0 ++ LT) v P) : EvP (L, xs) 1400 ML_law 622 [.ref 31, .ref 32, .ref 100, .int (nI i)] [] (pmT0 ++ LT) v P := by
  refine ev_aload_n 622 dL_law_622 rfl (by decide) ?_
  refine ev_aload_n 623 dL_law_623 rfl (by decide) ?_
  refine ev_iload_n 624 dL_law_624 rfl ?_
  refine ev_iconst 625 dL_law_625 kI_1 ?_
  refine ev_iadd 626 dL_law_626 ?_
  refine ev_cst (y := nI (i + 1)) (nI_add i 1) ?_
  refine ev_ialdX (X := (L, xs)) (x := xs (i + 1)) 627 dL_law_627 (pm_inI (by omega) (by omega)) (congrArg xs (nI_clamp (by omega))) ?_
  refine ev_aload_n 628 dL_law_628 rfl (by decide) ?_
  refine ev_iload_n 629 dL_law_629 rfl ?_
  refine ev_iconst 630 dL_law_630 kI_2 ?_
  refine ev_iadd 631 dL_law_631 ?_
  refine ev_cst (y := nI (i + 2)) (nI_add i 2) ?_
  refine ev_ialdX (X := (L, xs)) (x := xs (i + 2)) 632 dL_law_632 (pm_inI (by omega) (by omega)) (congrArg xs (nI_clamp (by omega))) ?_
  refine cv_40_73_11 (pc := 633) rfl dL_law_633 kd_32 (Nat.le_of_ble_eq_true rfl) ?_
  refine EvP.aftl (op_worth hC) rfl noI_worth (fun x LT1 v1 hA => ?_)
  refine ev_aload_n 636 dL_law_636 rfl (by decide) ?_
  refine ev_aload_n 637 dL_law_637 rfl (by decide) ?_
  refine ev_iload_n 638 dL_law_638 rfl ?_
  refine ev_iconst 639 dL_law_639 kI_1 ?_
  refine ev_iadd 640 dL_law_640 ?_
  refine ev_cst (y := nI (i + 1)) (nI_add i 1) ?_
  refine ev_ialdX (X := (L, xs)) (x := xs (i + 1)) 641 dL_law_641 (pm_inI (by omega) (by omega)) (congrArg xs (nI_clamp (by omega))) ?_
  refine ev_aload_n 642 dL_law_642 rfl (by decide) ?_
  refine ev_iload_n 643 dL_law_643 rfl ?_
  refine ev_iconst 644 dL_law_644 kI_2 ?_
  refine ev_iadd 645 dL_law_645 ?_
  refine ev_cst (y := nI (i + 2)) (nI_add i 2) ?_
  refine ev_ialdX (X := (L, xs)) (x := xs (i + 2)) 646 dL_law_646 (pm_inI (by omega) (by omega)) (congrArg xs (nI_clamp (by omega))) ?_
  refine cv_40_76_12 (pc := 647) rfl dL_law_647 kd_100 (Nat.le_of_ble_eq_true rfl) ?_
  refine hA.go (fun n' t' z' LT' v2 hC' => ?_)
  refine ev_lcmp 650 dL_law_650 ?_
  refine ev_cst (y := 0) (lgc_self x) ?_
  refine ev_ifT 651 963 dL_law_651 rfl (by decide) ?_
  exact K n' t' z' LT' v2 hC'
theorem lw_judge {L : Nat} {xs : Nat → Int32} {i n tx z : Nat} {LT : pmT} {v : pmV} {P : Option Value → pmT → pmV → Prop} (hL : L ≤ 384) (h6 : i + 6 ≤ L) (hC : Cpl n tx z LT v) (K : ∀ n tx z LT v, Cpl n tx z LT v → EvP (L, xs) 1400 ML_law 963 [.ref 31, .ref 32, .ref 100, .int (nI i)] [] (pmT0 ++ LT) v P) : EvP (L, xs) 1400 ML_law 656 [.ref 31, .ref 32, .ref 100, .int (nI i)] [] (pmT0 ++ LT) v P := by
  refine ev_aload_n 656 dL_law_656 rfl (by decide) ?_
  refine ev_aload_n 657 dL_law_657 rfl (by decide) ?_
  refine ev_iload_n 658 dL_law_658 rfl ?_
  refine ev_iconst 659 dL_law_659 kI_1 ?_
  refine ev_iadd 660 dL_law_660 ?_
  refine ev_cst (y := nI (i + 1)) (nI_add i 1) ?_
  refine ev_ialdX (X := (L, xs)) (x := xs (i + 1)) 661 dL_law_661 (pm_inI (by omega) (by omega)) (congrArg xs (nI_clamp (by omega))) ?_
  refine cv_40_77_11 (pc := 662) rfl dL_law_662 kd_32 (Nat.le_of_ble_eq_true rfl) ?_
  refine EvP.aft (op_judge hC) rfl (fun x LT1 v1 hA => ?_)
  refine ev_aload_n 665 dL_law_665 rfl (by decide) ?_
  refine ev_aload_n 666 dL_law_666 rfl (by decide) ?_
  refine ev_iload_n 667 dL_law_667 rfl ?_
  refine ev_iconst 668 dL_law_668 kI_1 ?_
  refine ev_iadd 669 dL_law_669 ?_
  refine ev_cst (y := nI (i + 1)) (nI_add i 1) ?_
  refine ev_ialdX (X := (L, xs)) (x := xs (i + 1)) 670 dL_law_670 (pm_inI (by omega) (by omega)) (congrArg xs (nI_clamp (by omega))) ?_
  refine cv_40_80_12 (pc := 671) rfl dL_law_671 kd_100 (Nat.le_of_ble_eq_true rfl) ?_
  refine hA.go (fun n' t' z' LT' v2 hC' => ?_)
  refine ev_icT 674 963 dL_law_674 rfl (by simp [pmC2]) ?_
  exact K n' t' z' LT' v2 hC'
theorem lw_image {L : Nat} {xs : Nat → Int32} {i n tx z : Nat} {LT : pmT} {v : pmV} {P : Option Value → pmT → pmV → Prop} (hL : L ≤ 384) (h6 : i + 6 ≤ L) (hC : Cpl n tx z LT v) (K : ∀ n tx z LT v, Cpl n tx z LT v → EvP (L, xs) 1400 ML_law 963 [.ref 31, .ref 32, .ref 100, .int (nI i)] [] (pmT0 ++ LT) v P) : EvP (L, xs) 1400 ML_law 679 [.ref 31, .ref 32, .ref 100, .int (nI i)] [] (pmT0 ++ LT) v P := by
  refine ev_aload_n 679 dL_law_679 rfl (by decide) ?_
  refine cv_40_81_11 (pc := 680) rfl dL_law_680 kd_32 (Nat.le_of_ble_eq_true rfl) ?_
  refine EvP.aft (op_image hC) rfl (fun x LT1 v1 hA => ?_)
  refine ev_aload_n 683 dL_law_683 rfl (by decide) ?_
  refine cv_40_84_12 (pc := 684) rfl dL_law_684 kd_100 (Nat.le_of_ble_eq_true rfl) ?_
  refine hA.go (fun n' t' z' LT' v2 hC' => ?_)
  refine ev_icT 687 963 dL_law_687 rfl (by simp [pmC2]) ?_
  exact K n' t' z' LT' v2 hC'
theorem lw_back {L : Nat} {xs : Nat → Int32} {i n tx z : Nat} {LT : pmT} {v : pmV} {P : Option Value → pmT → pmV → Prop} (hL : L ≤ 384) (h6 : i + 6 ≤ L) (hC : Cpl n tx z LT v) (K : ∀ n tx z LT v, Cpl n tx z LT v → EvP (L, xs) 1400 ML_law 963 [.ref 31, .ref 32, .ref 100, .int (nI i)] [] (pmT0 ++ LT) v P) : EvP (L, xs) 1400 ML_law 692 [.ref 31, .ref 32, .ref 100, .int (nI i)] [] (pmT0 ++ LT) v P := by
  refine ev_aload_n 692 dL_law_692 rfl (by decide) ?_
  refine cv_40_85_11 (pc := 693) rfl dL_law_693 kd_32 (Nat.le_of_ble_eq_true rfl) ?_
  refine EvP.aft (op_back hC) rfl (fun x LT1 v1 hA => ?_)
  refine ev_aload_n 696 dL_law_696 rfl (by decide) ?_
  refine cv_40_88_12 (pc := 697) rfl dL_law_697 kd_100 (Nat.le_of_ble_eq_true rfl) ?_
  refine hA.go (fun n' t' z' LT' v2 hC' => ?_)
  refine ev_icT 700 963 dL_law_700 rfl (by simp [pmC2]) ?_
  exact K n' t' z' LT' v2 hC'
theorem lw_count {L : Nat} {xs : Nat → Int32} {i n tx z : Nat} {LT : pmT} {v : pmV} {P : Option Value → pmT → pmV → Prop} (hL : L ≤ 384) (h6 : i + 6 ≤ L) (hC : Cpl n tx z LT v) (K : ∀ n tx z LT v, Cpl n tx z LT v → EvP (L, xs) 1400 ML_law 963 [.ref 31, .ref 32, .ref 100, .int (nI i)] [] (pmT0 ++ LT) v P) : EvP (L, xs) 1400 ML_law 705 [.ref 31, .ref 32, .ref 100, .int (nI i)] [] (pmT0 ++ LT) v P := by
  refine ev_aload_n 705 dL_law_705 rfl (by decide) ?_
  refine ev_aload_n 706 dL_law_706 rfl (by decide) ?_
  refine ev_iload_n 707 dL_law_707 rfl ?_
  refine ev_iconst 708 dL_law_708 kI_1 ?_
  refine ev_iadd 709 dL_law_709 ?_
  refine ev_cst (y := nI (i + 1)) (nI_add i 1) ?_
  refine ev_ialdX (X := (L, xs)) (x := xs (i + 1)) 710 dL_law_710 (pm_inI (by omega) (by omega)) (congrArg xs (nI_clamp (by omega))) ?_
  refine cv_40_89_11 (pc := 711) rfl dL_law_711 kd_32 (Nat.le_of_ble_eq_true rfl) ?_
  refine EvP.aft (op_count hC) rfl (fun x LT1 v1 hA => ?_)
  refine ev_aload_n 714 dL_law_714 rfl (by decide) ?_
  refine ev_aload_n 715 dL_law_715 rfl (by decide) ?_
  refine ev_iload_n 716 dL_law_716 rfl ?_
  refine ev_iconst 717 dL_law_717 kI_1 ?_
  refine ev_iadd 718 dL_law_718 ?_
  refine ev_cst (y := nI (i + 1)) (nI_add i 1) ?_
  refine ev_ialdX (X := (L, xs)) (x := xs (i + 1)) 719 dL_law_719 (pm_inI (by omega) (by omega)) (congrArg xs (nI_clamp (by omega))) ?_
  refine cv_40_92_12 (pc := 720) rfl dL_law_720 kd_100 (Nat.le_of_ble_eq_true rfl) ?_
  refine hA.go (fun n' t' z' LT' v2 hC' => ?_)
  refine ev_icT 723 963 dL_law_723 rfl (by simp [pmC2]) ?_
  exact K n' t' z' LT' v2 hC'
theorem lw_sheet {L : Nat} {xs : Nat → Int32} {i n tx z : Nat} {LT : pmT} {v : pmV} {P : Option Value → pmT → pmV → Prop} (hL : L ≤ 384) (h6 : i + 6 ≤ L) (hC : Cpl n tx z LT v) (K : ∀ n tx z LT v, Cpl n tx z LT v → EvP (L, xs) 1400 ML_law 963 [.ref 31, .ref 32, .ref 100, .int (nI i)] [] (pmT0 ++ LT) v P) : EvP (L, xs) 1400 ML_law 728 [.ref 31, .ref 32, .ref 100, .int (nI i)] [] (pmT0 ++ LT) v P := by
  refine ev_aload_n 728 dL_law_728 rfl (by decide) ?_
  refine ev_aload_n 729 dL_law_729 rfl (by decide) ?_
  refine ev_iload_n 730 dL_law_730 rfl ?_
  refine ev_iconst 731 dL_law_731 kI_1 ?_
  refine ev_iadd 732 dL_law_732 ?_
  refine ev_cst (y := nI (i + 1)) (nI_add i 1) ?_
  refine ev_ialdX (X := (L, xs)) (x := xs (i + 1)) 733 dL_law_733 (pm_inI (by omega) (by omega)) (congrArg xs (nI_clamp (by omega))) ?_
  refine ev_aload_n 734 dL_law_734 rfl (by decide) ?_
  refine ev_iload_n 735 dL_law_735 rfl ?_
  refine ev_iconst 736 dL_law_736 kI_2 ?_
  refine ev_iadd 737 dL_law_737 ?_
  refine ev_cst (y := nI (i + 2)) (nI_add i 2) ?_
  refine ev_ialdX (X := (L, xs)) (x := xs (i + 2)) 738 dL_law_738 (pm_inI (by omega) (by omega)) (congrArg xs (nI_clamp (by omega))) ?_
  refine ev_aload_n 739 dL_law_739 rfl (by decide) ?_
  refine ev_iload_n 740 dL_law_740 rfl ?_
  refine ev_iconst 741 dL_law_741 kI_3 ?_
  refine ev_iadd 742 dL_law_742 ?_
  refine ev_cst (y := nI (i + 3)) (nI_add i 3) ?_
  refine ev_ialdX (X := (L, xs)) (x := xs (i + 3)) 743 dL_law_743 (pm_inI (by omega) (by omega)) (congrArg xs (nI_clamp (by omega))) ?_
  refine cv_40_93_11 (pc := 744) rfl dL_law_744 kd_32 (Nat.le_of_ble_eq_true rfl) ?_
  refine EvP.aft (op_sheet hC) rfl (fun x LT1 v1 hA => ?_)
  refine ev_aload_n 747 dL_law_747 rfl (by decide) ?_
  refine ev_aload_n 748 dL_law_748 rfl (by decide) ?_
  refine ev_iload_n 749 dL_law_749 rfl ?_
  refine ev_iconst 750 dL_law_750 kI_1 ?_
  refine ev_iadd 751 dL_law_751 ?_
  refine ev_cst (y := nI (i + 1)) (nI_add i 1) ?_
  refine ev_ialdX (X := (L, xs)) (x := xs (i + 1)) 752 dL_law_752 (pm_inI (by omega) (by omega)) (congrArg xs (nI_clamp (by omega))) ?_
  refine ev_aload_n 753 dL_law_753 rfl (by decide) ?_
  refine ev_iload_n 754 dL_law_754 rfl ?_
  refine ev_iconst 755 dL_law_755 kI_2 ?_
  refine ev_iadd 756 dL_law_756 ?_
  refine ev_cst (y := nI (i + 2)) (nI_add i 2) ?_
  refine ev_ialdX (X := (L, xs)) (x := xs (i + 2)) 757 dL_law_757 (pm_inI (by omega) (by omega)) (congrArg xs (nI_clamp (by omega))) ?_
  refine ev_aload_n 758 dL_law_758 rfl (by decide) ?_
  refine ev_iload_n 759 dL_law_759 rfl ?_
  refine ev_iconst 760 dL_law_760 kI_3 ?_
  refine ev_iadd 761 dL_law_761 ?_
  refine ev_cst (y := nI (i + 3)) (nI_add i 3) ?_
  refine ev_ialdX (X := (L, xs)) (x := xs (i + 3)) 762 dL_law_762 (pm_inI (by omega) (by omega)) (congrArg xs (nI_clamp (by omega))) ?_
  refine cv_40_96_12 (pc := 763) rfl dL_law_763 kd_100 (Nat.le_of_ble_eq_true rfl) ?_
  refine hA.go (fun n' t' z' LT' v2 hC' => ?_)
  refine ev_icT 766 963 dL_law_766 rfl (by simp [pmC2]) ?_
  exact K n' t' z' LT' v2 hC'
theorem lw_cell {L : Nat} {xs : Nat → Int32} {i n tx z : Nat} {LT : pmT} {v : pmV} {P : Option Value → pmT → pmV → Prop} (hL : L ≤ 384) (h6 : i + 6 ≤ L) (hC : Cpl n tx z LT v) (K : ∀ n tx z LT v, Cpl n tx z LT v → EvP (L, xs) 1400 ML_law 963 [.ref 31, .ref 32, .ref 100, .int (nI i)] [] (pmT0 ++ LT) v P) : EvP (L, xs) 1400 ML_law 771 [.ref 31, .ref 32, .ref 100, .int (nI i)] [] (pmT0 ++ LT) v P := by
  refine ev_aload_n 771 dL_law_771 rfl (by decide) ?_
  refine ev_aload_n 772 dL_law_772 rfl (by decide) ?_
  refine ev_iload_n 773 dL_law_773 rfl ?_
  refine ev_iconst 774 dL_law_774 kI_1 ?_
  refine ev_iadd 775 dL_law_775 ?_
  refine ev_cst (y := nI (i + 1)) (nI_add i 1) ?_
  refine ev_ialdX (X := (L, xs)) (x := xs (i + 1)) 776 dL_law_776 (pm_inI (by omega) (by omega)) (congrArg xs (nI_clamp (by omega))) ?_
  refine ev_aload_n 777 dL_law_777 rfl (by decide) ?_
  refine ev_iload_n 778 dL_law_778 rfl ?_
  refine ev_iconst 779 dL_law_779 kI_2 ?_
  refine ev_iadd 780 dL_law_780 ?_
  refine ev_cst (y := nI (i + 2)) (nI_add i 2) ?_
  refine ev_ialdX (X := (L, xs)) (x := xs (i + 2)) 781 dL_law_781 (pm_inI (by omega) (by omega)) (congrArg xs (nI_clamp (by omega))) ?_
  refine ev_aload_n 782 dL_law_782 rfl (by decide) ?_
  refine ev_iload_n 783 dL_law_783 rfl ?_
  refine ev_iconst 784 dL_law_784 kI_3 ?_
  refine ev_iadd 785 dL_law_785 ?_
  refine ev_cst (y := nI (i + 3)) (nI_add i 3) ?_
  refine ev_ialdX (X := (L, xs)) (x := xs (i + 3)) 786 dL_law_786 (pm_inI (by omega) (by omega)) (congrArg xs (nI_clamp (by omega))) ?_
  refine cv_40_97_11 (pc := 787) rfl dL_law_787 kd_32 (Nat.le_of_ble_eq_true rfl) ?_
  refine EvP.aft (op_cell hC) rfl (fun x LT1 v1 hA => ?_)
  refine ev_aload_n 790 dL_law_790 rfl (by decide) ?_
  refine ev_aload_n 791 dL_law_791 rfl (by decide) ?_
  refine ev_iload_n 792 dL_law_792 rfl ?_
  refine ev_iconst 793 dL_law_793 kI_1 ?_
  refine ev_iadd 794 dL_law_794 ?_
  refine ev_cst (y := nI (i + 1)) (nI_add i 1) ?_
  refine ev_ialdX (X := (L, xs)) (x := xs (i + 1)) 795 dL_law_795 (pm_inI (by omega) (by omega)) (congrArg xs (nI_clamp (by omega))) ?_
  refine ev_aload_n 796 dL_law_796 rfl (by decide) ?_
  refine ev_iload_n 797 dL_law_797 rfl ?_
  refine ev_iconst 798 dL_law_798 kI_2 ?_
  refine ev_iadd 799 dL_law_799 ?_
  refine ev_cst (y := nI (i + 2)) (nI_add i 2) ?_
  refine ev_ialdX (X := (L, xs)) (x := xs (i + 2)) 800 dL_law_800 (pm_inI (by omega) (by omega)) (congrArg xs (nI_clamp (by omega))) ?_
  refine ev_aload_n 801 dL_law_801 rfl (by decide) ?_
  refine ev_iload_n 802 dL_law_802 rfl ?_
  refine ev_iconst 803 dL_law_803 kI_3 ?_
  refine ev_iadd 804 dL_law_804 ?_
  refine ev_cst (y := nI (i + 3)) (nI_add i 3) ?_
  refine ev_ialdX (X := (L, xs)) (x := xs (i + 3)) 805 dL_law_805 (pm_inI (by omega) (by omega)) (congrArg xs (nI_clamp (by omega))) ?_
  refine cv_40_100_12 (pc := 806) rfl dL_law_806 kd_100 (Nat.le_of_ble_eq_true rfl) ?_
  refine hA.go (fun n' t' z' LT' v2 hC' => ?_)
  refine ev_icT 809 963 dL_law_809 rfl (by simp [pmC2]) ?_
  exact K n' t' z' LT' v2 hC'
theorem lw_copy {L : Nat} {xs : Nat → Int32} {i n tx z : Nat} {LT : pmT} {v : pmV} {P : Option Value → pmT → pmV → Prop} (hL : L ≤ 384) (h6 : i + 6 ≤ L) (hC : Cpl n tx z LT v) (K : ∀ n tx z LT v, Cpl n tx z LT v → EvP (L, xs) 1400 ML_law 963 [.ref 31, .ref 32, .ref 100, .int (nI i)] [] (pmT0 ++ LT) v P) : EvP (L, xs) 1400 ML_law 814 [.ref 31, .ref 32, .ref 100, .int (nI i)] [] (pmT0 ++ LT) v P := by
  refine ev_aload_n 814 dL_law_814 rfl (by decide) ?_
  refine ev_aload_n 815 dL_law_815 rfl (by decide) ?_
  refine ev_iload_n 816 dL_law_816 rfl ?_
  refine ev_iconst 817 dL_law_817 kI_1 ?_
  refine ev_iadd 818 dL_law_818 ?_
  refine ev_cst (y := nI (i + 1)) (nI_add i 1) ?_
  refine ev_ialdX (X := (L, xs)) (x := xs (i + 1)) 819 dL_law_819 (pm_inI (by omega) (by omega)) (congrArg xs (nI_clamp (by omega))) ?_
  refine ev_aload_n 820 dL_law_820 rfl (by decide) ?_
  refine ev_iload_n 821 dL_law_821 rfl ?_
  refine ev_iconst 822 dL_law_822 kI_2 ?_
  refine ev_iadd 823 dL_law_823 ?_
  refine ev_cst (y := nI (i + 2)) (nI_add i 2) ?_
  refine ev_ialdX (X := (L, xs)) (x := xs (i + 2)) 824 dL_law_824 (pm_inI (by omega) (by omega)) (congrArg xs (nI_clamp (by omega))) ?_
  refine ev_aload_n 825 dL_law_825 rfl (by decide) ?_
  refine ev_iload_n 826 dL_law_826 rfl ?_
  refine ev_iconst 827 dL_law_827 kI_3 ?_
  refine ev_iadd 828 dL_law_828 ?_
  refine ev_cst (y := nI (i + 3)) (nI_add i 3) ?_
  refine ev_ialdX (X := (L, xs)) (x := xs (i + 3)) 829 dL_law_829 (pm_inI (by omega) (by omega)) (congrArg xs (nI_clamp (by omega))) ?_
  refine ev_aload_n 830 dL_law_830 rfl (by decide) ?_
  refine ev_iload_n 831 dL_law_831 rfl ?_
  refine ev_iconst 832 dL_law_832 kI_4 ?_
  refine ev_iadd 833 dL_law_833 ?_
  refine ev_cst (y := nI (i + 4)) (nI_add i 4) ?_
  refine ev_ialdX (X := (L, xs)) (x := xs (i + 4)) 834 dL_law_834 (pm_inI (by omega) (by omega)) (congrArg xs (nI_clamp (by omega))) ?_
  refine ev_aload_n 835 dL_law_835 rfl (by decide) ?_
  refine ev_iload_n 836 dL_law_836 rfl ?_
  refine ev_iconst 837 dL_law_837 kI_5 ?_
  refine ev_iadd 838 dL_law_838 ?_
  refine ev_cst (y := nI (i + 5)) (nI_add i 5) ?_
  refine ev_ialdX (X := (L, xs)) (x := xs (i + 5)) 839 dL_law_839 (pm_inI (by omega) (by omega)) (congrArg xs (nI_clamp (by omega))) ?_
  refine cv_40_101_11 (pc := 840) rfl dL_law_840 kd_32 (Nat.le_of_ble_eq_true rfl) ?_
  refine EvP.aft (op_copy hC) rfl (fun x LT1 v1 hA => ?_)
  refine ev_aload_n 843 dL_law_843 rfl (by decide) ?_
  refine ev_aload_n 844 dL_law_844 rfl (by decide) ?_
  refine ev_iload_n 845 dL_law_845 rfl ?_
  refine ev_iconst 846 dL_law_846 kI_1 ?_
  refine ev_iadd 847 dL_law_847 ?_
  refine ev_cst (y := nI (i + 1)) (nI_add i 1) ?_
  refine ev_ialdX (X := (L, xs)) (x := xs (i + 1)) 848 dL_law_848 (pm_inI (by omega) (by omega)) (congrArg xs (nI_clamp (by omega))) ?_
  refine ev_aload_n 849 dL_law_849 rfl (by decide) ?_
  refine ev_iload_n 850 dL_law_850 rfl ?_
  refine ev_iconst 851 dL_law_851 kI_2 ?_
  refine ev_iadd 852 dL_law_852 ?_
  refine ev_cst (y := nI (i + 2)) (nI_add i 2) ?_
  refine ev_ialdX (X := (L, xs)) (x := xs (i + 2)) 853 dL_law_853 (pm_inI (by omega) (by omega)) (congrArg xs (nI_clamp (by omega))) ?_
  refine ev_aload_n 854 dL_law_854 rfl (by decide) ?_
  refine ev_iload_n 855 dL_law_855 rfl ?_
  refine ev_iconst 856 dL_law_856 kI_3 ?_
  refine ev_iadd 857 dL_law_857 ?_
  refine ev_cst (y := nI (i + 3)) (nI_add i 3) ?_
  refine ev_ialdX (X := (L, xs)) (x := xs (i + 3)) 858 dL_law_858 (pm_inI (by omega) (by omega)) (congrArg xs (nI_clamp (by omega))) ?_
  refine ev_aload_n 859 dL_law_859 rfl (by decide) ?_
  refine ev_iload_n 860 dL_law_860 rfl ?_
  refine ev_iconst 861 dL_law_861 kI_4 ?_
  refine ev_iadd 862 dL_law_862 ?_
  refine ev_cst (y := nI (i + 4)) (nI_add i 4) ?_
  refine ev_ialdX (X := (L, xs)) (x := xs (i + 4)) 863 dL_law_863 (pm_inI (by omega) (by omega)) (congrArg xs (nI_clamp (by omega))) ?_
  refine ev_aload_n 864 dL_law_864 rfl (by decide) ?_
  refine ev_iload_n 865 dL_law_865 rfl ?_
  refine ev_iconst 866 dL_law_866 kI_5 ?_
  refine ev_iadd 867 dL_law_867 ?_
  refine ev_cst (y := nI (i + 5)) (nI_add i 5) ?_
  refine ev_ialdX (X := (L, xs)) (x := xs (i + 5)) 868 dL_law_868 (pm_inI (by omega) (by omega)) (congrArg xs (nI_clamp (by omega))) ?_
  refine cv_40_105_12 (pc := 869) rfl dL_law_869 kd_100 (Nat.le_of_ble_eq_true rfl) ?_
  refine hA.go (fun n' t' z' LT' v2 hC' => ?_)
  refine ev_icT 872 963 dL_law_872 rfl (by simp [pmC2]) ?_
  exact K n' t' z' LT' v2 hC'
theorem lw_lanes {L : Nat} {xs : Nat → Int32} {i n tx z : Nat} {LT : pmT} {v : pmV} {P : Option Value → pmT → pmV → Prop} (hL : L ≤ 384) (h6 : i + 6 ≤ L) (hC : Cpl n tx z LT v) (K : ∀ n tx z LT v, Cpl n tx z LT v → EvP (L, xs) 1400 ML_law 963 [.ref 31, .ref 32, .ref 100, .int (nI i)] [] (pmT0 ++ LT) v P) : EvP (L, xs) 1400 ML_law 877 [.ref 31, .ref 32, .ref 100, .int (nI i)] [] (pmT0 ++ LT) v P := by
  refine ev_aload_n 877 dL_law_877 rfl (by decide) ?_
  refine ev_aload_n 878 dL_law_878 rfl (by decide) ?_
  refine ev_iload_n 879 dL_law_879 rfl ?_
  refine ev_iconst 880 dL_law_880 kI_1 ?_
  refine ev_iadd 881 dL_law_881 ?_
  refine ev_cst (y := nI (i + 1)) (nI_add i 1) ?_
  refine ev_ialdX (X := (L, xs)) (x := xs (i + 1)) 882 dL_law_882 (pm_inI (by omega) (by omega)) (congrArg xs (nI_clamp (by omega))) ?_
  refine ev_aload_n 883 dL_law_883 rfl (by decide) ?_
  refine ev_iload_n 884 dL_law_884 rfl ?_
  refine ev_iconst 885 dL_law_885 kI_2 ?_
  refine ev_iadd 886 dL_law_886 ?_
  refine ev_cst (y := nI (i + 2)) (nI_add i 2) ?_
  refine ev_ialdX (X := (L, xs)) (x := xs (i + 2)) 887 dL_law_887 (pm_inI (by omega) (by omega)) (congrArg xs (nI_clamp (by omega))) ?_
  refine ev_aload_n 888 dL_law_888 rfl (by decide) ?_
  refine ev_iload_n 889 dL_law_889 rfl ?_
  refine ev_iconst 890 dL_law_890 kI_3 ?_
  refine ev_iadd 891 dL_law_891 ?_
  refine ev_cst (y := nI (i + 3)) (nI_add i 3) ?_
  refine ev_ialdX (X := (L, xs)) (x := xs (i + 3)) 892 dL_law_892 (pm_inI (by omega) (by omega)) (congrArg xs (nI_clamp (by omega))) ?_
  refine ev_aload_n 893 dL_law_893 rfl (by decide) ?_
  refine ev_iload_n 894 dL_law_894 rfl ?_
  refine ev_iconst 895 dL_law_895 kI_4 ?_
  refine ev_iadd 896 dL_law_896 ?_
  refine ev_cst (y := nI (i + 4)) (nI_add i 4) ?_
  refine ev_ialdX (X := (L, xs)) (x := xs (i + 4)) 897 dL_law_897 (pm_inI (by omega) (by omega)) (congrArg xs (nI_clamp (by omega))) ?_
  refine cv_40_106_11 (pc := 898) rfl dL_law_898 kd_32 (Nat.le_of_ble_eq_true rfl) ?_
  refine EvP.aft (op_lanes hC) rfl (fun x LT1 v1 hA => ?_)
  refine ev_aload_n 901 dL_law_901 rfl (by decide) ?_
  refine ev_aload_n 902 dL_law_902 rfl (by decide) ?_
  refine ev_iload_n 903 dL_law_903 rfl ?_
  refine ev_iconst 904 dL_law_904 kI_1 ?_
  refine ev_iadd 905 dL_law_905 ?_
  refine ev_cst (y := nI (i + 1)) (nI_add i 1) ?_
  refine ev_ialdX (X := (L, xs)) (x := xs (i + 1)) 906 dL_law_906 (pm_inI (by omega) (by omega)) (congrArg xs (nI_clamp (by omega))) ?_
  refine ev_aload_n 907 dL_law_907 rfl (by decide) ?_
  refine ev_iload_n 908 dL_law_908 rfl ?_
  refine ev_iconst 909 dL_law_909 kI_2 ?_
  refine ev_iadd 910 dL_law_910 ?_
  refine ev_cst (y := nI (i + 2)) (nI_add i 2) ?_
  refine ev_ialdX (X := (L, xs)) (x := xs (i + 2)) 911 dL_law_911 (pm_inI (by omega) (by omega)) (congrArg xs (nI_clamp (by omega))) ?_
  refine ev_aload_n 912 dL_law_912 rfl (by decide) ?_
  refine ev_iload_n 913 dL_law_913 rfl ?_
  refine ev_iconst 914 dL_law_914 kI_3 ?_
  refine ev_iadd 915 dL_law_915 ?_
  refine ev_cst (y := nI (i + 3)) (nI_add i 3) ?_
  refine ev_ialdX (X := (L, xs)) (x := xs (i + 3)) 916 dL_law_916 (pm_inI (by omega) (by omega)) (congrArg xs (nI_clamp (by omega))) ?_
  refine ev_aload_n 917 dL_law_917 rfl (by decide) ?_
  refine ev_iload_n 918 dL_law_918 rfl ?_
  refine ev_iconst 919 dL_law_919 kI_4 ?_
  refine ev_iadd 920 dL_law_920 ?_
  refine ev_cst (y := nI (i + 4)) (nI_add i 4) ?_
  refine ev_ialdX (X := (L, xs)) (x := xs (i + 4)) 921 dL_law_921 (pm_inI (by omega) (by omega)) (congrArg xs (nI_clamp (by omega))) ?_
  refine cv_40_110_12 (pc := 922) rfl dL_law_922 kd_100 (Nat.le_of_ble_eq_true rfl) ?_
  refine hA.go (fun n' t' z' LT' v2 hC' => ?_)
  refine ev_icT 925 963 dL_law_925 rfl (by simp [pmC2]) ?_
  exact K n' t' z' LT' v2 hC'
theorem lw_taken {L : Nat} {xs : Nat → Int32} {i n tx z : Nat} {LT : pmT} {v : pmV} {P : Option Value → pmT → pmV → Prop} (hL : L ≤ 384) (h6 : i + 6 ≤ L) (hC : Cpl n tx z LT v) (K : ∀ n tx z LT v, Cpl n tx z LT v → EvP (L, xs) 1400 ML_law 963 [.ref 31, .ref 32, .ref 100, .int (nI i)] [] (pmT0 ++ LT) v P) : EvP (L, xs) 1400 ML_law 930 [.ref 31, .ref 32, .ref 100, .int (nI i)] [] (pmT0 ++ LT) v P := by
  refine ev_aload_n 930 dL_law_930 rfl (by decide) ?_
  refine ev_aload_n 931 dL_law_931 rfl (by decide) ?_
  refine ev_iload_n 932 dL_law_932 rfl ?_
  refine ev_iconst 933 dL_law_933 kI_1 ?_
  refine ev_iadd 934 dL_law_934 ?_
  refine ev_cst (y := nI (i + 1)) (nI_add i 1) ?_
  refine ev_ialdX (X := (L, xs)) (x := xs (i + 1)) 935 dL_law_935 (pm_inI (by omega) (by omega)) (congrArg xs (nI_clamp (by omega))) ?_
  refine ev_aload_n 936 dL_law_936 rfl (by decide) ?_
  refine ev_iload_n 937 dL_law_937 rfl ?_
  refine ev_iconst 938 dL_law_938 kI_2 ?_
  refine ev_iadd 939 dL_law_939 ?_
  refine ev_cst (y := nI (i + 2)) (nI_add i 2) ?_
  refine ev_ialdX (X := (L, xs)) (x := xs (i + 2)) 940 dL_law_940 (pm_inI (by omega) (by omega)) (congrArg xs (nI_clamp (by omega))) ?_
  refine cv_40_111_11 (pc := 941) rfl dL_law_941 kd_32 (Nat.le_of_ble_eq_true rfl) ?_
  refine EvP.aft (op_taken hC) rfl (fun x LT1 v1 hA => ?_)
  refine ev_aload_n 944 dL_law_944 rfl (by decide) ?_
  refine ev_aload_n 945 dL_law_945 rfl (by decide) ?_
  refine ev_iload_n 946 dL_law_946 rfl ?_
  refine ev_iconst 947 dL_law_947 kI_1 ?_
  refine ev_iadd 948 dL_law_948 ?_
  refine ev_cst (y := nI (i + 1)) (nI_add i 1) ?_
  refine ev_ialdX (X := (L, xs)) (x := xs (i + 1)) 949 dL_law_949 (pm_inI (by omega) (by omega)) (congrArg xs (nI_clamp (by omega))) ?_
  refine ev_aload_n 950 dL_law_950 rfl (by decide) ?_
  refine ev_iload_n 951 dL_law_951 rfl ?_
  refine ev_iconst 952 dL_law_952 kI_2 ?_
  refine ev_iadd 953 dL_law_953 ?_
  refine ev_cst (y := nI (i + 2)) (nI_add i 2) ?_
  refine ev_ialdX (X := (L, xs)) (x := xs (i + 2)) 954 dL_law_954 (pm_inI (by omega) (by omega)) (congrArg xs (nI_clamp (by omega))) ?_
  refine cv_40_114_12 (pc := 955) rfl dL_law_955 kd_100 (Nat.le_of_ble_eq_true rfl) ?_
  refine hA.go (fun n' t' z' LT' v2 hC' => ?_)
  refine ev_icT 958 963 dL_law_958 rfl (by simp [pmC2]) ?_
  exact K n' t' z' LT' v2 hC'
