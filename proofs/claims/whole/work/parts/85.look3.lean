/-! TEXTS: the reference's look: words, signs, the whole -/
def vW (B : Nat → Int32) (p n : Nat) : Int32 := if n ≤ 6 then rW B p n else 0
theorem wF_of {B : Nat → Int32} {p e w : Nat} (hw : w < 12) (h : ∀ j, j < e - p → lB (B (p + j))) (hv : vW B p (e - p) = nI (wdN w)) : wF B p e 12 = w := ((wF_iff hw).mp ((rW_iff hw h).mpr hv)).symm
theorem wF_no {B : Nat → Int32} {p e : Nat} (h : ∀ j, j < e - p → lB (B (p + j))) (hn : ∀ w, w < 12 → ¬ vW B p (e - p) = nI (wdN w)) : wF B p e 12 = 12 := by
  rcases wF_s (B := B) (a := p) (e := e) 12 (Nat.le_refl _) with ⟨a, _⟩ | ⟨a, b⟩
  · exact a
  · exact absurd ((rW_iff a h).mp b) (hn _ a)
theorem bA_sg {B : Nat → Int32} {z p : Nat} (h : sgB (bA B z p)) : p < z ∧ sgB (B p) := by
  by_cases c : p < z
  · rw [bA_on c] at h; exact ⟨c, h⟩
  · rw [bA_of (by omega)] at h; exact absurd h (by decide)
theorem lp_lookL {X : pmX} {d : Nat} {v0 : pmV} {P : Option Value → pmT → pmV → Prop} {LT : pmT} {B : Nat → Int32} {z : Nat} (hX : pmRf v0) (hz160 : z ≤ 160) (hz : v0.1 100 12 = nI z) (hB : ∀ j, j < z → v0.1 106 j = B j) {p : Nat} {w0 : Value} (hp : p < z) (hl : lB (B p)) (K : ∀ v', Of lkC v0 v' → LKP B z p v' → P none (pmT0 ++ LT) v') : ∀ (k n : Nat) (v : pmV), n + k = eT B z p - p → Of lkC v0 v → v.1 100 13 = nI p → v.1 100 15 = rW B p n → v.1 100 16 = nI n → EvP X (d + 2) MX12_look 186 [.ref 100, w0] [] (pmT0 ++ LT) v P
  | 0, n, v, hn, hO, h13, h15, h16 => by
    have e1 := @eT_lt B z p
    have e2 := eT_le (B := B) hp
    have hlet : ∀ j, j < eT B z p - p → lB (B (p + j)) := fun j hj => let_in (z := z) hl (by omega) (by omega)
    have hne : n = eT B z p - p := by omega
    have hX0 := hX
    have hz0 := hz
    have hB0 := hB
    have hX : pmRf v := hX.ag (congrArg Prod.snd hO.1)
    have hz : v.1 100 12 = nI z := (hO.off (by unfold lkC; omega)).trans hz
    have hB : ∀ j, j < z → v.1 106 j = B j := fun j hj => (hO.off (by unfold lkC; omega)).trans (hB j hj)
    refine ev_aload_n 186 dX12_look_186 rfl (by decide) ?_
    refine ev_aload_n 187 dX12_look_187 rfl (by decide) ?_
    refine ev_aload_n 188 dX12_look_188 rfl (by decide) ?_
    refine gf_12_92 (x := nI p) (pc := 189) rfl dX12_look_189 kd_100 h13 ?_
    refine ev_aload_n 192 dX12_look_192 rfl (by decide) ?_
    refine gf_12_101 (x := nI n) (pc := 193) rfl dX12_look_193 kd_100 h16 ?_
    refine ev_iadd 196 dX12_look_196 ?_
    refine ev_cst (y := nI (p + n)) (nI_add p n) ?_
    refine cv_12_211_12 (pc := 197) rfl dX12_look_197 kd_100 (Nat.le_of_ble_eq_true rfl) ?_
    refine c_X12_byteAt (B := B) (v := v) hX hz160 hz hB (by omega) ?_
    refine cv_12_217_12 (pc := 200) rfl dX12_look_200 kd_100 (Nat.le_of_ble_eq_true rfl) ?_
    refine c_X12_isLetter (fun h_200 => absurd h_200 (let_st2 hl (by omega))) (fun h_200 => ?_)
    refine ev_ifT 203 260 dX12_look_203 rfl (by decide) ?_
    refine ev_aload_n 260 dX12_look_260 rfl (by decide) ?_
    refine ev_aload_n 261 dX12_look_261 rfl (by decide) ?_
    refine gf_12_101 (x := nI n) (pc := 262) rfl dX12_look_262 kd_100 h16 ?_
    refine ev_bipush 265 dX12_look_265 kB_6 ?_
    refine ev_ic_leN (a := n) (b := 6) 267 274 dX12_look_267 rfl (by omega) (by omega) (fun c_267 => ?_) (fun c_267 => ?_)
    · refine ev_aload_n 274 dX12_look_274 rfl (by decide) ?_
      refine gf_12_98 (x := rW B p n) (pc := 275) rfl dX12_look_275 kd_100 h15 ?_
      refine ev_cst (y := vW B p n) (by unfold vW; first | exact (if_pos (by omega)).symm | exact (if_neg (by omega)).symm) ?_
      refine pf_12_98 (pc := 278) rfl dX12_look_278 kd_100 ?_
      refine ev_aload_n 281 dX12_look_281 rfl (by decide) ?_
      refine ev_aload_n 282 dX12_look_282 rfl (by decide) ?_
      refine ev_aload_n 283 dX12_look_283 rfl (by decide) ?_
      refine gf_12_98 (x := vW B p n) (pc := 284) rfl dX12_look_284 kd_100 uI_on ?_
      refine cv_12_220_12 (pc := 287) rfl dX12_look_287 kd_100 (Nat.le_of_ble_eq_true rfl) ?_
      refine c_X12_nameOf (fun w hw hv => ?_) (fun hv0 => ?_)
      · refine ev_if_ge 290 304 dX12_look_290 rfl (fun c_290 => ?_) (fun c_290 => absurd (nI_pos' (n := w) (by omega)) (by first | exact c_290 | exact Int32.not_le.mpr c_290))
        refine ev_iconst 304 dX12_look_304 kI_2 ?_
        refine ev_goto 305 310 dX12_look_305 rfl ?_
        refine pf_12_95 (pc := 310) rfl dX12_look_310 kd_100 ?_
        refine ev_goto 313 382 dX12_look_313 rfl ?_
        refine ev_return 382 dX12_look_382 rfl ?_
        refine K _ ((hO.i ⟨rfl, by omega⟩).i ⟨rfl, by omega⟩) ⟨(uI_off (by decide)).trans ((uI_off (by decide)).trans h13), by omega, fun h => by omega, fun _ => ⟨(uI_off (by decide)).trans ((uI_off (by decide)).trans (h16.trans (congrArg nI (by omega)))), ?_⟩⟩
        rw [uI_on, show ∀ x : Int32, (uI (uI v 100 15 (vW B p n)) 100 14 x).1 100 15 = vW B p n from fun x => (uI_off (by decide)).trans uI_on]
        subst hne
        unfold RT tkC tkV
        rw [if_pos hl, if_pos hl]
        rw [wF_of (by omega) hlet hv]
        exact Or.inr (Or.inr (Or.inl ⟨rfl, w, by omega, rfl, rfl, hv⟩))
      · refine ev_ifF 290 304 dX12_look_290 rfl (by decide) ?_
        refine ev_aload_n 293 dX12_look_293 rfl (by decide) ?_
        refine ev_aload_n 294 dX12_look_294 rfl (by decide) ?_
        refine gf_12_98 (x := vW B p n) (pc := 295) rfl dX12_look_295 kd_100 uI_on ?_
        refine cv_12_223_12 (pc := 298) rfl dX12_look_298 kd_100 (Nat.le_of_ble_eq_true rfl) ?_
        refine c_X12_isKey (fun w h6 hw hv => ?_) (fun hv1 => ?_)
        · refine ev_ifF 301 308 dX12_look_301 rfl (by decide) ?_
          refine ev_iconst 304 dX12_look_304 kI_2 ?_
          refine ev_goto 305 310 dX12_look_305 rfl ?_
          refine pf_12_95 (pc := 310) rfl dX12_look_310 kd_100 ?_
          refine ev_goto 313 382 dX12_look_313 rfl ?_
          refine ev_return 382 dX12_look_382 rfl ?_
          refine K _ ((hO.i ⟨rfl, by omega⟩).i ⟨rfl, by omega⟩) ⟨(uI_off (by decide)).trans ((uI_off (by decide)).trans h13), by omega, fun h => by omega, fun _ => ⟨(uI_off (by decide)).trans ((uI_off (by decide)).trans (h16.trans (congrArg nI (by omega)))), ?_⟩⟩
          rw [uI_on, show ∀ x : Int32, (uI (uI v 100 15 (vW B p n)) 100 14 x).1 100 15 = vW B p n from fun x => (uI_off (by decide)).trans uI_on]
          subst hne
          unfold RT tkC tkV
          rw [if_pos hl, if_pos hl]
          rw [wF_of (by omega) hlet hv]
          exact Or.inr (Or.inr (Or.inl ⟨rfl, w, by omega, rfl, rfl, hv⟩))
        · refine ev_ifT 301 308 dX12_look_301 rfl (by decide) ?_
          refine ev_bipush 308 dX12_look_308 kB_m2 ?_
          refine pf_12_95 (pc := 310) rfl dX12_look_310 kd_100 ?_
          refine ev_goto 313 382 dX12_look_313 rfl ?_
          refine ev_return 382 dX12_look_382 rfl ?_
          refine K _ ((hO.i ⟨rfl, by omega⟩).i ⟨rfl, by omega⟩) ⟨(uI_off (by decide)).trans ((uI_off (by decide)).trans h13), by omega, fun h => by omega, fun _ => ⟨(uI_off (by decide)).trans ((uI_off (by decide)).trans (h16.trans (congrArg nI (by omega)))), ?_⟩⟩
          rw [uI_on, show ∀ x : Int32, (uI (uI v 100 15 (vW B p n)) 100 14 x).1 100 15 = vW B p n from fun x => (uI_off (by decide)).trans uI_on]
          subst hne
          unfold RT tkC tkV
          rw [if_pos hl, if_pos hl]
          rw [wF_no hlet (fun w hw => by
            by_cases c : w < 6
            · exact hv0 w c
            · exact hv1 w (by omega) hw)]
          exact Or.inl ⟨rfl, rfl⟩
    · refine ev_iconst 270 dX12_look_270 kI_0 ?_
      refine ev_goto 271 278 dX12_look_271 rfl ?_
      refine ev_cst (y := vW B p n) (by unfold vW; first | exact (if_pos (by omega)).symm | exact (if_neg (by omega)).symm) ?_
      refine pf_12_98 (pc := 278) rfl dX12_look_278 kd_100 ?_
      refine ev_aload_n 281 dX12_look_281 rfl (by decide) ?_
      refine ev_aload_n 282 dX12_look_282 rfl (by decide) ?_
      refine ev_aload_n 283 dX12_look_283 rfl (by decide) ?_
      refine gf_12_98 (x := vW B p n) (pc := 284) rfl dX12_look_284 kd_100 uI_on ?_
      refine cv_12_220_12 (pc := 287) rfl dX12_look_287 kd_100 (Nat.le_of_ble_eq_true rfl) ?_
      refine c_X12_nameOf (fun w hw hv => ?_) (fun hv0 => ?_)
      · refine ev_if_ge 290 304 dX12_look_290 rfl (fun c_290 => ?_) (fun c_290 => absurd (nI_pos' (n := w) (by omega)) (by first | exact c_290 | exact Int32.not_le.mpr c_290))
        refine ev_iconst 304 dX12_look_304 kI_2 ?_
        refine ev_goto 305 310 dX12_look_305 rfl ?_
        refine pf_12_95 (pc := 310) rfl dX12_look_310 kd_100 ?_
        refine ev_goto 313 382 dX12_look_313 rfl ?_
        refine ev_return 382 dX12_look_382 rfl ?_
        refine K _ ((hO.i ⟨rfl, by omega⟩).i ⟨rfl, by omega⟩) ⟨(uI_off (by decide)).trans ((uI_off (by decide)).trans h13), by omega, fun h => by omega, fun _ => ⟨(uI_off (by decide)).trans ((uI_off (by decide)).trans (h16.trans (congrArg nI (by omega)))), ?_⟩⟩
        rw [uI_on, show ∀ x : Int32, (uI (uI v 100 15 (vW B p n)) 100 14 x).1 100 15 = vW B p n from fun x => (uI_off (by decide)).trans uI_on]
        subst hne
        unfold RT tkC tkV
        rw [if_pos hl, if_pos hl]
        rw [wF_of (by omega) hlet hv]
        exact Or.inr (Or.inr (Or.inl ⟨rfl, w, by omega, rfl, rfl, hv⟩))
      · refine ev_ifF 290 304 dX12_look_290 rfl (by decide) ?_
        refine ev_aload_n 293 dX12_look_293 rfl (by decide) ?_
        refine ev_aload_n 294 dX12_look_294 rfl (by decide) ?_
        refine gf_12_98 (x := vW B p n) (pc := 295) rfl dX12_look_295 kd_100 uI_on ?_
        refine cv_12_223_12 (pc := 298) rfl dX12_look_298 kd_100 (Nat.le_of_ble_eq_true rfl) ?_
        refine c_X12_isKey (fun w h6 hw hv => ?_) (fun hv1 => ?_)
        · refine ev_ifF 301 308 dX12_look_301 rfl (by decide) ?_
          refine ev_iconst 304 dX12_look_304 kI_2 ?_
          refine ev_goto 305 310 dX12_look_305 rfl ?_
          refine pf_12_95 (pc := 310) rfl dX12_look_310 kd_100 ?_
          refine ev_goto 313 382 dX12_look_313 rfl ?_
          refine ev_return 382 dX12_look_382 rfl ?_
          refine K _ ((hO.i ⟨rfl, by omega⟩).i ⟨rfl, by omega⟩) ⟨(uI_off (by decide)).trans ((uI_off (by decide)).trans h13), by omega, fun h => by omega, fun _ => ⟨(uI_off (by decide)).trans ((uI_off (by decide)).trans (h16.trans (congrArg nI (by omega)))), ?_⟩⟩
          rw [uI_on, show ∀ x : Int32, (uI (uI v 100 15 (vW B p n)) 100 14 x).1 100 15 = vW B p n from fun x => (uI_off (by decide)).trans uI_on]
          subst hne
          unfold RT tkC tkV
          rw [if_pos hl, if_pos hl]
          rw [wF_of (by omega) hlet hv]
          exact Or.inr (Or.inr (Or.inl ⟨rfl, w, by omega, rfl, rfl, hv⟩))
        · refine ev_ifT 301 308 dX12_look_301 rfl (by decide) ?_
          refine ev_bipush 308 dX12_look_308 kB_m2 ?_
          refine pf_12_95 (pc := 310) rfl dX12_look_310 kd_100 ?_
          refine ev_goto 313 382 dX12_look_313 rfl ?_
          refine ev_return 382 dX12_look_382 rfl ?_
          refine K _ ((hO.i ⟨rfl, by omega⟩).i ⟨rfl, by omega⟩) ⟨(uI_off (by decide)).trans ((uI_off (by decide)).trans h13), by omega, fun h => by omega, fun _ => ⟨(uI_off (by decide)).trans ((uI_off (by decide)).trans (h16.trans (congrArg nI (by omega)))), ?_⟩⟩
          rw [uI_on, show ∀ x : Int32, (uI (uI v 100 15 (vW B p n)) 100 14 x).1 100 15 = vW B p n from fun x => (uI_off (by decide)).trans uI_on]
          subst hne
          unfold RT tkC tkV
          rw [if_pos hl, if_pos hl]
          rw [wF_no hlet (fun w hw => by
            by_cases c : w < 6
            · exact hv0 w c
            · exact hv1 w (by omega) hw)]
          exact Or.inl ⟨rfl, rfl⟩
  | k + 1, n, v, hn, hO, h13, h15, h16 => by
    have e1 := @eT_lt B z p
    have e2 := eT_le (B := B) hp
    have hX0 := hX
    have hz0 := hz
    have hB0 := hB
    have hX : pmRf v := hX.ag (congrArg Prod.snd hO.1)
    have hz : v.1 100 12 = nI z := (hO.off (by unfold lkC; omega)).trans hz
    have hB : ∀ j, j < z → v.1 106 j = B j := fun j hj => (hO.off (by unfold lkC; omega)).trans (hB j hj)
    refine ev_aload_n 186 dX12_look_186 rfl (by decide) ?_
    refine ev_aload_n 187 dX12_look_187 rfl (by decide) ?_
    refine ev_aload_n 188 dX12_look_188 rfl (by decide) ?_
    refine gf_12_92 (x := nI p) (pc := 189) rfl dX12_look_189 kd_100 h13 ?_
    refine ev_aload_n 192 dX12_look_192 rfl (by decide) ?_
    refine gf_12_101 (x := nI n) (pc := 193) rfl dX12_look_193 kd_100 h16 ?_
    refine ev_iadd 196 dX12_look_196 ?_
    refine ev_cst (y := nI (p + n)) (nI_add p n) ?_
    refine cv_12_211_12 (pc := 197) rfl dX12_look_197 kd_100 (Nat.le_of_ble_eq_true rfl) ?_
    refine c_X12_byteAt (B := B) (v := v) hX hz160 hz hB (by omega) ?_
    refine cv_12_217_12 (pc := 200) rfl dX12_look_200 kd_100 (Nat.le_of_ble_eq_true rfl) ?_
    refine c_X12_isLetter (fun h_200 => ?_) (fun h_200 => absurd (bA_l.mpr ⟨by omega, let_in (z := z) hl (by omega) (by omega)⟩) h_200)
    refine ev_ifF 203 260 dX12_look_203 rfl (by decide) ?_
    refine ev_aload_n 206 dX12_look_206 rfl (by decide) ?_
    refine ev_aload_n 207 dX12_look_207 rfl (by decide) ?_
    refine gf_12_101 (x := nI n) (pc := 208) rfl dX12_look_208 kd_100 h16 ?_
    refine ev_bipush 211 dX12_look_211 kB_6 ?_
    refine ev_ic_geN (a := n) (b := 6) 213 243 dX12_look_213 rfl (by omega) (by omega) (fun c_213 => ?_) (fun c_213 => ?_)
    · refine ev_iconst 243 dX12_look_243 kI_0 ?_
      refine pf_12_98 (pc := 244) rfl dX12_look_244 kd_100 ?_
      refine ev_aload_n 247 dX12_look_247 rfl (by decide) ?_
      refine ev_dup 248 dX12_look_248 rfl ?_
      refine gf_12_101 (x := nI n) (pc := 249) rfl dX12_look_249 kd_100 ((uI_off (by decide)).trans h16) ?_
      refine ev_iconst 252 dX12_look_252 kI_1 ?_
      refine ev_iadd 253 dX12_look_253 ?_
      refine ev_cst (y := nI (n + 1)) (nI_add n 1) ?_
      refine pf_12_101 (pc := 254) rfl dX12_look_254 kd_100 ?_
      refine ev_goto 257 186 dX12_look_257 rfl ?_
      refine lp_lookL hX0 hz160 hz0 hB0 hp hl K k (n + 1) _ (by omega) ((hO.i ⟨rfl, by omega⟩).i ⟨rfl, by omega⟩) ((uI_off (by decide)).trans ((uI_off (by decide)).trans h13)) ((uI_off (by decide)).trans (uI_on.trans ?_)) uI_on
      rw [rW]; first | exact (if_pos (by omega)).symm | exact (if_neg (by omega)).symm
    · refine ev_bipush 216 dX12_look_216 kB_32 ?_
      refine ev_aload_n 218 dX12_look_218 rfl (by decide) ?_
      refine gf_12_98 (x := rW B p n) (pc := 219) rfl dX12_look_219 kd_100 h15 ?_
      refine ev_imul 222 dX12_look_222 ?_
      refine ev_aload_n 223 dX12_look_223 rfl (by decide) ?_
      refine ev_aload_n 224 dX12_look_224 rfl (by decide) ?_
      refine gf_12_92 (x := nI p) (pc := 225) rfl dX12_look_225 kd_100 h13 ?_
      refine ev_aload_n 228 dX12_look_228 rfl (by decide) ?_
      refine gf_12_101 (x := nI n) (pc := 229) rfl dX12_look_229 kd_100 h16 ?_
      refine ev_iadd 232 dX12_look_232 ?_
      refine ev_cst (y := nI (p + n)) (nI_add p n) ?_
      refine cv_12_211_12 (pc := 233) rfl dX12_look_233 kd_100 (Nat.le_of_ble_eq_true rfl) ?_
      refine c_X12_byteAt (B := B) (v := v) hX hz160 hz hB (by omega) ?_
      refine ev_cst (y := B (p + n)) (bA_on (by omega)) ?_
      refine ev_iadd 236 dX12_look_236 ?_
      refine ev_bipush 237 dX12_look_237 kB_96 ?_
      refine ev_isub 239 dX12_look_239 ?_
      refine ev_goto 240 244 dX12_look_240 rfl ?_
      refine pf_12_98 (pc := 244) rfl dX12_look_244 kd_100 ?_
      refine ev_aload_n 247 dX12_look_247 rfl (by decide) ?_
      refine ev_dup 248 dX12_look_248 rfl ?_
      refine gf_12_101 (x := nI n) (pc := 249) rfl dX12_look_249 kd_100 ((uI_off (by decide)).trans h16) ?_
      refine ev_iconst 252 dX12_look_252 kI_1 ?_
      refine ev_iadd 253 dX12_look_253 ?_
      refine ev_cst (y := nI (n + 1)) (nI_add n 1) ?_
      refine pf_12_101 (pc := 254) rfl dX12_look_254 kd_100 ?_
      refine ev_goto 257 186 dX12_look_257 rfl ?_
      refine lp_lookL hX0 hz160 hz0 hB0 hp hl K k (n + 1) _ (by omega) ((hO.i ⟨rfl, by omega⟩).i ⟨rfl, by omega⟩) ((uI_off (by decide)).trans ((uI_off (by decide)).trans h13)) ((uI_off (by decide)).trans (uI_on.trans ?_)) uI_on
      rw [rW]; first | exact (if_pos (by omega)).symm | exact (if_neg (by omega)).symm
theorem c_look39 {X : pmX} {d : Nat} {v0 : pmV} {P : Option Value → pmT → pmV → Prop} {LT : pmT} {B : Nat → Int32} {z : Nat} (hX : pmRf v0) (hz160 : z ≤ 160) (hz : v0.1 100 12 = nI z) (hB : ∀ j, j < z → v0.1 106 j = B j) (h255 : ∀ j, j < z → 0 ≤ B j ∧ B j ≤ 255) {p : Nat} {w : Value} {v : pmV} (hO : Of lkC v0 v) (h13 : v.1 100 13 = nI p) (hpz : p ≤ z) (K : ∀ v', Of lkC v0 v' → LKP B z p v' → P none (pmT0 ++ LT) v') : EvP X (d + 2) MX12_look 39 [.ref 100, w] [] (pmT0 ++ LT) v P := by
  have hX0 := hX
  have hz0 := hz
  have hB0 := hB
  have hX : pmRf v := hX.ag (congrArg Prod.snd hO.1)
  have hz : v.1 100 12 = nI z := (hO.off (by unfold lkC; omega)).trans hz
  have hB : ∀ j, j < z → v.1 106 j = B j := fun j hj => (hO.off (by unfold lkC; omega)).trans (hB j hj)
  refine ev_aload_n 39 dX12_look_39 rfl (by decide) ?_
  refine ev_aload_n 40 dX12_look_40 rfl (by decide) ?_
  refine gf_12_92 (x := nI p) (pc := 41) rfl dX12_look_41 kd_100 h13 ?_
  refine cv_12_211_12 (pc := 44) rfl dX12_look_44 kd_100 (Nat.le_of_ble_eq_true rfl) ?_
  refine c_X12_byteAt (B := B) (v := v) hX hz160 hz hB (by omega) ?_
  refine ev_istore_n (ls' := [.ref 100, .int (bA B z p)]) 47 dX12_look_47 (Nat.le_of_ble_eq_true rfl) rfl ?_
  refine ev_aload_n 48 dX12_look_48 rfl (by decide) ?_
  refine ev_iconst 49 dX12_look_49 kI_1 ?_
  refine pf_12_101 (pc := 50) rfl dX12_look_50 kd_100 ?_
  refine ev_aload_n 53 dX12_look_53 rfl (by decide) ?_
  refine ev_iconst 54 dX12_look_54 kI_0 ?_
  refine pf_12_98 (pc := 55) rfl dX12_look_55 kd_100 ?_
  refine ev_aload_n 58 dX12_look_58 rfl (by decide) ?_
  refine ev_iload_n 59 dX12_look_59 rfl ?_
  refine cv_12_214_12 (pc := 60) rfl dX12_look_60 kd_100 (Nat.le_of_ble_eq_true rfl) ?_
  refine c_X12_isDigit (fun h_60 => ?_) (fun h_60 => ?_)
  · refine ev_ifF 63 173 dX12_look_63 rfl (by decide) ?_
    refine ev_aload_n 66 dX12_look_66 rfl (by decide) ?_
    refine ev_iconst 67 dX12_look_67 kI_1 ?_
    refine pf_12_95 (pc := 68) rfl dX12_look_68 kd_100 ?_
    refine ev_aload_n 71 dX12_look_71 rfl (by decide) ?_
    refine ev_iconst 72 dX12_look_72 kI_0 ?_
    refine pf_12_101 (pc := 73) rfl dX12_look_73 kd_100 ?_
    have hd := bA_d.mp h_60
    exact lp_lookD hX0 hz160 hz0 hB0 hd.1 hd.2 K (eT B z p - p) 0 _ (by omega) ((((hO.i ⟨rfl, by omega⟩).i ⟨rfl, by omega⟩).i ⟨rfl, by omega⟩).i ⟨rfl, by omega⟩) ((uI_off (by decide)).trans ((uI_off (by decide)).trans ((uI_off (by decide)).trans ((uI_off (by decide)).trans (h13))))) ((uI_off (by decide)).trans ((uI_off (by decide)).trans (uI_on))) uI_on
  · refine ev_ifT 63 173 dX12_look_63 rfl (by decide) ?_
    refine ev_aload_n 173 dX12_look_173 rfl (by decide) ?_
    refine ev_iload_n 174 dX12_look_174 rfl ?_
    refine cv_12_217_12 (pc := 175) rfl dX12_look_175 kd_100 (Nat.le_of_ble_eq_true rfl) ?_
    refine c_X12_isLetter (fun h_175 => ?_) (fun h_175 => ?_)
    · refine ev_ifF 178 316 dX12_look_178 rfl (by decide) ?_
      refine ev_aload_n 181 dX12_look_181 rfl (by decide) ?_
      refine ev_iconst 182 dX12_look_182 kI_0 ?_
      refine pf_12_101 (pc := 183) rfl dX12_look_183 kd_100 ?_
      have hl := bA_l.mp h_175
      exact lp_lookL hX0 hz160 hz0 hB0 hl.1 hl.2 K (eT B z p - p) 0 _ (by omega) (((hO.i ⟨rfl, by omega⟩).i ⟨rfl, by omega⟩).i ⟨rfl, by omega⟩) ((uI_off (by decide)).trans ((uI_off (by decide)).trans ((uI_off (by decide)).trans (h13)))) ((uI_off (by decide)).trans (uI_on)) uI_on
    · refine ev_ifT 178 316 dX12_look_178 rfl (by decide) ?_
      refine ev_aload_n 316 dX12_look_316 rfl (by decide) ?_
      refine ev_iload_n 317 dX12_look_317 rfl ?_
      refine ev_bipush 318 dX12_look_318 kB_40 ?_
      refine ev_ic_eq 320 365 dX12_look_320 rfl (fun c_320 => ?_) (fun c_320 => ?_)
      · refine ev_iload_n 365 dX12_look_365 rfl ?_
        refine ev_goto 366 379 dX12_look_366 rfl ?_
        refine pf_12_95 (pc := 379) rfl dX12_look_379 kd_100 ?_
        refine ev_return 382 dX12_look_382 rfl ?_
        have hs := bA_sg (B := B) (z := z) (p := p) (Or.inl c_320)
        rw [bA_on hs.1] at h_60 h_175
        have he := eT_sg (z := z) h_175 h_60
        refine K _ (((hO.i ⟨rfl, by omega⟩).i ⟨rfl, by omega⟩).i ⟨rfl, by omega⟩) ⟨(uI_off (by decide)).trans ((uI_off (by decide)).trans ((uI_off (by decide)).trans (h13))), hpz, fun h => by omega, fun _ => ⟨?_, ?_⟩⟩
        · rw [he, show p + 1 - p = 1 by omega]; exact (uI_off (by decide)).trans ((uI_off (by decide)).trans uI_on)
        · rw [uI_on, bA_on hs.1]; unfold RT tkC; rw [if_neg h_175, if_neg h_60, if_pos hs.2]; exact Or.inr (Or.inr (Or.inr ⟨hs.2, rfl⟩))
      · refine ev_iload_n 323 dX12_look_323 rfl ?_
        refine ev_bipush 324 dX12_look_324 kB_41 ?_
        refine ev_ic_eq 326 365 dX12_look_326 rfl (fun c_326 => ?_) (fun c_326 => ?_)
        · refine ev_iload_n 365 dX12_look_365 rfl ?_
          refine ev_goto 366 379 dX12_look_366 rfl ?_
          refine pf_12_95 (pc := 379) rfl dX12_look_379 kd_100 ?_
          refine ev_return 382 dX12_look_382 rfl ?_
          have hs := bA_sg (B := B) (z := z) (p := p) (Or.inr (Or.inl c_326))
          rw [bA_on hs.1] at h_60 h_175
          have he := eT_sg (z := z) h_175 h_60
          refine K _ (((hO.i ⟨rfl, by omega⟩).i ⟨rfl, by omega⟩).i ⟨rfl, by omega⟩) ⟨(uI_off (by decide)).trans ((uI_off (by decide)).trans ((uI_off (by decide)).trans (h13))), hpz, fun h => by omega, fun _ => ⟨?_, ?_⟩⟩
          · rw [he, show p + 1 - p = 1 by omega]; exact (uI_off (by decide)).trans ((uI_off (by decide)).trans uI_on)
          · rw [uI_on, bA_on hs.1]; unfold RT tkC; rw [if_neg h_175, if_neg h_60, if_pos hs.2]; exact Or.inr (Or.inr (Or.inr ⟨hs.2, rfl⟩))
        · refine ev_iload_n 329 dX12_look_329 rfl ?_
          refine ev_bipush 330 dX12_look_330 kB_59 ?_
          refine ev_ic_eq 332 365 dX12_look_332 rfl (fun c_332 => ?_) (fun c_332 => ?_)
          · refine ev_iload_n 365 dX12_look_365 rfl ?_
            refine ev_goto 366 379 dX12_look_366 rfl ?_
            refine pf_12_95 (pc := 379) rfl dX12_look_379 kd_100 ?_
            refine ev_return 382 dX12_look_382 rfl ?_
            have hs := bA_sg (B := B) (z := z) (p := p) (Or.inr (Or.inr (Or.inl c_332)))
            rw [bA_on hs.1] at h_60 h_175
            have he := eT_sg (z := z) h_175 h_60
            refine K _ (((hO.i ⟨rfl, by omega⟩).i ⟨rfl, by omega⟩).i ⟨rfl, by omega⟩) ⟨(uI_off (by decide)).trans ((uI_off (by decide)).trans ((uI_off (by decide)).trans (h13))), hpz, fun h => by omega, fun _ => ⟨?_, ?_⟩⟩
            · rw [he, show p + 1 - p = 1 by omega]; exact (uI_off (by decide)).trans ((uI_off (by decide)).trans uI_on)
            · rw [uI_on, bA_on hs.1]; unfold RT tkC; rw [if_neg h_175, if_neg h_60, if_pos hs.2]; exact Or.inr (Or.inr (Or.inr ⟨hs.2, rfl⟩))
          · refine ev_iload_n 335 dX12_look_335 rfl ?_
            refine ev_bipush 336 dX12_look_336 kB_43 ?_
            refine ev_ic_eq 338 365 dX12_look_338 rfl (fun c_338 => ?_) (fun c_338 => ?_)
            · refine ev_iload_n 365 dX12_look_365 rfl ?_
              refine ev_goto 366 379 dX12_look_366 rfl ?_
              refine pf_12_95 (pc := 379) rfl dX12_look_379 kd_100 ?_
              refine ev_return 382 dX12_look_382 rfl ?_
              have hs := bA_sg (B := B) (z := z) (p := p) (Or.inr (Or.inr (Or.inr (Or.inl c_338))))
              rw [bA_on hs.1] at h_60 h_175
              have he := eT_sg (z := z) h_175 h_60
              refine K _ (((hO.i ⟨rfl, by omega⟩).i ⟨rfl, by omega⟩).i ⟨rfl, by omega⟩) ⟨(uI_off (by decide)).trans ((uI_off (by decide)).trans ((uI_off (by decide)).trans (h13))), hpz, fun h => by omega, fun _ => ⟨?_, ?_⟩⟩
              · rw [he, show p + 1 - p = 1 by omega]; exact (uI_off (by decide)).trans ((uI_off (by decide)).trans uI_on)
              · rw [uI_on, bA_on hs.1]; unfold RT tkC; rw [if_neg h_175, if_neg h_60, if_pos hs.2]; exact Or.inr (Or.inr (Or.inr ⟨hs.2, rfl⟩))
            · refine ev_iload_n 341 dX12_look_341 rfl ?_
              refine ev_bipush 342 dX12_look_342 kB_45 ?_
              refine ev_ic_eq 344 365 dX12_look_344 rfl (fun c_344 => ?_) (fun c_344 => ?_)
              · refine ev_iload_n 365 dX12_look_365 rfl ?_
                refine ev_goto 366 379 dX12_look_366 rfl ?_
                refine pf_12_95 (pc := 379) rfl dX12_look_379 kd_100 ?_
                refine ev_return 382 dX12_look_382 rfl ?_
                have hs := bA_sg (B := B) (z := z) (p := p) (Or.inr (Or.inr (Or.inr (Or.inr (Or.inl c_344)))))
                rw [bA_on hs.1] at h_60 h_175
                have he := eT_sg (z := z) h_175 h_60
                refine K _ (((hO.i ⟨rfl, by omega⟩).i ⟨rfl, by omega⟩).i ⟨rfl, by omega⟩) ⟨(uI_off (by decide)).trans ((uI_off (by decide)).trans ((uI_off (by decide)).trans (h13))), hpz, fun h => by omega, fun _ => ⟨?_, ?_⟩⟩
                · rw [he, show p + 1 - p = 1 by omega]; exact (uI_off (by decide)).trans ((uI_off (by decide)).trans uI_on)
                · rw [uI_on, bA_on hs.1]; unfold RT tkC; rw [if_neg h_175, if_neg h_60, if_pos hs.2]; exact Or.inr (Or.inr (Or.inr ⟨hs.2, rfl⟩))
              · refine ev_iload_n 347 dX12_look_347 rfl ?_
                refine ev_bipush 348 dX12_look_348 kB_42 ?_
                refine ev_ic_eq 350 365 dX12_look_350 rfl (fun c_350 => ?_) (fun c_350 => ?_)
                · refine ev_iload_n 365 dX12_look_365 rfl ?_
                  refine ev_goto 366 379 dX12_look_366 rfl ?_
                  refine pf_12_95 (pc := 379) rfl dX12_look_379 kd_100 ?_
                  refine ev_return 382 dX12_look_382 rfl ?_
                  have hs := bA_sg (B := B) (z := z) (p := p) (Or.inr (Or.inr (Or.inr (Or.inr (Or.inr (Or.inl c_350))))))
                  rw [bA_on hs.1] at h_60 h_175
                  have he := eT_sg (z := z) h_175 h_60
                  refine K _ (((hO.i ⟨rfl, by omega⟩).i ⟨rfl, by omega⟩).i ⟨rfl, by omega⟩) ⟨(uI_off (by decide)).trans ((uI_off (by decide)).trans ((uI_off (by decide)).trans (h13))), hpz, fun h => by omega, fun _ => ⟨?_, ?_⟩⟩
                  · rw [he, show p + 1 - p = 1 by omega]; exact (uI_off (by decide)).trans ((uI_off (by decide)).trans uI_on)
                  · rw [uI_on, bA_on hs.1]; unfold RT tkC; rw [if_neg h_175, if_neg h_60, if_pos hs.2]; exact Or.inr (Or.inr (Or.inr ⟨hs.2, rfl⟩))
                · refine ev_iload_n 353 dX12_look_353 rfl ?_
                  refine ev_bipush 354 dX12_look_354 kB_60 ?_
                  refine ev_ic_eq 356 365 dX12_look_356 rfl (fun c_356 => ?_) (fun c_356 => ?_)
                  · refine ev_iload_n 365 dX12_look_365 rfl ?_
                    refine ev_goto 366 379 dX12_look_366 rfl ?_
                    refine pf_12_95 (pc := 379) rfl dX12_look_379 kd_100 ?_
                    refine ev_return 382 dX12_look_382 rfl ?_
                    have hs := bA_sg (B := B) (z := z) (p := p) (Or.inr (Or.inr (Or.inr (Or.inr (Or.inr (Or.inr (Or.inl c_356)))))))
                    rw [bA_on hs.1] at h_60 h_175
                    have he := eT_sg (z := z) h_175 h_60
                    refine K _ (((hO.i ⟨rfl, by omega⟩).i ⟨rfl, by omega⟩).i ⟨rfl, by omega⟩) ⟨(uI_off (by decide)).trans ((uI_off (by decide)).trans ((uI_off (by decide)).trans (h13))), hpz, fun h => by omega, fun _ => ⟨?_, ?_⟩⟩
                    · rw [he, show p + 1 - p = 1 by omega]; exact (uI_off (by decide)).trans ((uI_off (by decide)).trans uI_on)
                    · rw [uI_on, bA_on hs.1]; unfold RT tkC; rw [if_neg h_175, if_neg h_60, if_pos hs.2]; exact Or.inr (Or.inr (Or.inr ⟨hs.2, rfl⟩))
                  · refine ev_iload_n 359 dX12_look_359 rfl ?_
                    refine ev_bipush 360 dX12_look_360 kB_61 ?_
                    refine ev_ic_ne 362 369 dX12_look_362 rfl (fun c_362 => ?_) (fun c_362 => ?_)
                    · refine ev_iload_n 369 dX12_look_369 rfl ?_
                      refine ev_if_ge 370 377 dX12_look_370 rfl (fun c_370 => ?_) (fun c_370 => ?_)
                      · refine ev_bipush 377 dX12_look_377 kB_m2 ?_
                        refine pf_12_95 (pc := 379) rfl dX12_look_379 kd_100 ?_
                        refine ev_return 382 dX12_look_382 rfl ?_
                        have hpl : p < z := by
                          rcases Nat.lt_or_ge p z with a | a
                          · exact a
                          · rw [bA_of a] at c_370; exact absurd c_370 (by decide)
                        rw [bA_on hpl] at *
                        have hs : ¬ sgB (B p) := by
                          rintro (q | q | q | q | q | q | q | q) <;> first | exact c_320 q | exact c_326 q | exact c_332 q | exact c_338 q | exact c_344 q | exact c_350 q | exact c_356 q | exact c_362 q
                        have he := eT_sg (z := z) h_175 h_60
                        refine K _ (((hO.i ⟨rfl, by omega⟩).i ⟨rfl, by omega⟩).i ⟨rfl, by omega⟩) ⟨(uI_off (by decide)).trans ((uI_off (by decide)).trans ((uI_off (by decide)).trans (h13))), hpz, fun h => by omega, fun _ => ⟨?_, ?_⟩⟩
                        · rw [he, show p + 1 - p = 1 by omega]; exact (uI_off (by decide)).trans ((uI_off (by decide)).trans uI_on)
                        · rw [uI_on]; unfold RT tkC; rw [if_neg h_175, if_neg h_60, if_neg hs]; exact Or.inl ⟨rfl, rfl⟩
                      · refine ev_iconst 373 dX12_look_373 kI_m1 ?_
                        refine ev_goto 374 379 dX12_look_374 rfl ?_
                        refine pf_12_95 (pc := 379) rfl dX12_look_379 kd_100 ?_
                        refine ev_return 382 dX12_look_382 rfl ?_
                        have hz_ : z ≤ p := by
                          rcases Nat.lt_or_ge p z with a | a
                          · rw [bA_on a] at c_370; exact absurd (h255 p a).1 (by first | exact c_370 | exact Int32.not_le.mpr (Int32.not_le.mp c_370) | exact Int32.not_le.mpr c_370)
                          · exact a
                        exact K _ (((hO.i ⟨rfl, by omega⟩).i ⟨rfl, by omega⟩).i ⟨rfl, by omega⟩) ⟨(uI_off (by decide)).trans ((uI_off (by decide)).trans ((uI_off (by decide)).trans (h13))), hpz, fun _ => uI_on, fun h => by omega⟩
                    · refine ev_iload_n 365 dX12_look_365 rfl ?_
                      refine ev_goto 366 379 dX12_look_366 rfl ?_
                      refine pf_12_95 (pc := 379) rfl dX12_look_379 kd_100 ?_
                      refine ev_return 382 dX12_look_382 rfl ?_
                      have hs := bA_sg (B := B) (z := z) (p := p) (Or.inr (Or.inr (Or.inr (Or.inr (Or.inr (Or.inr (Or.inr ((by simpa using c_362)))))))))
                      rw [bA_on hs.1] at h_60 h_175
                      have he := eT_sg (z := z) h_175 h_60
                      refine K _ (((hO.i ⟨rfl, by omega⟩).i ⟨rfl, by omega⟩).i ⟨rfl, by omega⟩) ⟨(uI_off (by decide)).trans ((uI_off (by decide)).trans ((uI_off (by decide)).trans (h13))), hpz, fun h => by omega, fun _ => ⟨?_, ?_⟩⟩
                      · rw [he, show p + 1 - p = 1 by omega]; exact (uI_off (by decide)).trans ((uI_off (by decide)).trans uI_on)
                      · rw [uI_on, bA_on hs.1]; unfold RT tkC; rw [if_neg h_175, if_neg h_60, if_pos hs.2]; exact Or.inr (Or.inr (Or.inr ⟨hs.2, rfl⟩))
theorem c_X12_look {X : pmX} {d : Nat} {v : pmV} {P : Option Value → pmT → pmV → Prop} {LT : pmT} {B : Nat → Int32} {z : Nat} (hX : pmRf v) (hz160 : z ≤ 160) (hz : v.1 100 12 = nI z) (hB : ∀ j, j < z → v.1 106 j = B j) (h255 : ∀ j, j < z → 0 ≤ B j ∧ B j ≤ 255) {a : Nat} (ha : a ≤ z) (h13 : v.1 100 13 = nI a) (K : ∀ v', Of lkC v v' → LKP B z (sk B z a) v' → P none (pmT0 ++ LT) v') : EvP X (d + 2) MX12_look 0 [.ref 100, pmJ] [] (pmT0 ++ LT) v P := lp_lookB hX hz160 hz hB (fun v1 hO h => c_look39 hX hz160 hz hB h255 hO h (sk_le ha) K) z a v (by omega) ha Of.nil h13 rfl
