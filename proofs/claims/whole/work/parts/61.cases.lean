set_option maxHeartbeats 4000000 in
set_option maxRecDepth 100000 in
theorem lk_letter {p : Program} {e : Env} {s : State} {m : MethodId} {below : List Frame} {meth : Method} {c : Code} {b L : Nat} {xs : Nat → Int32} {G : zz_G} {Y : zz_Y} {a : Nat → Nat} (l : Launch) (hl9 : l.stackTraces = false) (Hq : zq_ p s m meth c b L xs G Y) {S : zz_S} {n : Nat} (h : zr_ S n) (hnL : 4 * n + 4 ≤ L) (kk : ∀ S2 : zz_S, zr_ S2 (n + 1) → zg_ p l e s m b below meth c G a (20000 + 4 * (n + 1)) S2 1596 (zv_ b a n) []) : zg_ p l e s m b below meth c G a (20000 + 4 * n) S 144 (zv_ b a n) [] := by
  obtain ⟨hC, hts, hX, hbl, hL, hF, hr, hlk⟩ := Hq
  have hK := hF.2.1
  have hn : n < 512 := by omega
  have hI := zr_IC (by omega) h
  refine gd_lveq (lv' := [(0, .ref b), (1, .ref (a 0)), (2, .ref (a 77)), (3, .ref (a 99)), (4, zz_v ((4 * n : Nat) : Int))]) rfl ?_
  refine gd_aload_n hC dL_law_144 rfl (j := 1) rfl ?_
  refine gd_aload_n hC dL_law_145 rfl (j := 0) rfl ?_
  refine gd_iload hC dL_law_146 (j := 4) rfl ?_
  refine gd_iconst hC dL_law_148 ?_
  refine gd_iadd hC dL_law_149 ?_
  refine gd_sld hC hX hbl rfl hL (j := 4 * n + 1) (by omega) (by omega) dL_law_150 ?_
  refine gd_i2c hC dL_law_151 ?_
  refine gd_aload_n hC dL_law_152 rfl (j := 3) rfl ?_
  refine gd_callL (As := [.ref (a 0), zz_v (((xs (4 * n + 1)).toInt) % 65536), .ref (a 99)]) (rest := []) hC hF (c_L_letter l hl9 _ G Y a S (((xs (4 * n + 1)).toInt) % 65536) ⟨by omega, by omega⟩ hI) (vx_cwSW 3 hts gL_law_L_letter rfl rfl rfl (by decide +kernel) ⟨by decide, by decide⟩) rfl rfl (Nat.le_of_ble_eq_true rfl) dL_law_153 (zg_room hn (by decide)) (fun r S1 hr1 hw => ?_)
  obtain ⟨hIM, e1, S2, z0, z1, z2, hth, hou, hzr⟩ := pl_letter h hn (((xs (4 * n + 1)).toInt) % 65536) ⟨by omega, by omega⟩ hw
  refine gd_istore hC dL_law_156 (by decide) (lv' := [(5, zz_v r), (0, .ref b), (1, .ref (a 0)), (2, .ref (a 77)), (3, .ref (a 99)), (4, zz_v ((4 * n : Nat) : Int))]) rfl ?_
  refine gd_aload_n hC dL_law_158 rfl (j := 3) rfl ?_
  refine gd_aload_n hC dL_law_159 rfl (j := 1) rfl ?_
  refine gd_iload hC dL_law_160 (j := 5) rfl ?_
  refine gd_iconst hC dL_law_162 ?_
  refine gd_iadd hC dL_law_163 ?_
  refine gd_sld hC hX hbl rfl hL (j := 4 * n + 1) (by omega) (by omega) dL_law_164 ?_
  refine gd_i2c hC dL_law_165 ?_
  refine gd_callVR (As := [zz_v (((xs (4 * n + 1)).toInt) % 65536)]) (rest := []) hC hF (fun hR => c_X4_letter l hl9 _ G Y a S1 (((xs (4 * n + 1)).toInt) % 65536) ⟨by omega, by omega⟩ hIM e1 S2 z0 z1 z2) (cwV 1 hts gL_law_X4_letter rfl rfl rfl (by decide +kernel) ⟨by decide, by decide⟩) rfl (by decide) (ci := 4) rfl rfl rfl rfl (Nat.le_of_ble_eq_true rfl) dL_law_166 (zg_room hn (by decide)) (fun E hx => zz_xn hx) (fun q qr => ?_)
  refine gd_istore hC dL_law_169 (by decide) (lv' := [(6, zz_v e1), (5, zz_v r), (0, .ref b), (1, .ref (a 0)), (2, .ref (a 77)), (3, .ref (a 99)), (4, zz_v ((4 * n : Nat) : Int))]) rfl ?_
  refine gd_aload_n hC dL_law_171 rfl (j := 4) rfl ?_
  refine gd_callVR (As := []) (rest := []) hC hF (fun hR => c_X4_thrown l hl9 _ G Y a S2) (cwV 0 hts gL_law_X4_thrown rfl rfl rfl (by decide +kernel) ⟨by decide, by decide⟩) rfl (by decide) (ci := 4) rfl rfl rfl rfl (Nat.le_of_ble_eq_true rfl) dL_law_172 (zg_room hn (by decide)) (fun E hx => zz_xn hx) (fun _ _ => ?_)
  refine gd_top (y := r) hth ?_
  refine gd_iload hC dL_law_175 (j := 1) rfl ?_
  refine gd_icmp_eq hC dL_law_177 (tgt := 182) (by decide) hr1 hr1 (fun c1 => ?_) (fun c1 => absurd rfl c1)
  refine gd_iload hC dL_law_182 (j := 1) rfl ?_
  refine gd_if_ne hC dL_law_184 (tgt := 199) (by decide) hr1 (fun c2 => ?_) (fun c2 => ?_)
  · skip
    refine gd_goto hC dL_law_199 (tgt := 1596) (by decide) ?_
    exact gd_wide (by omega) (gd_sub [2, 3, 4, 5, 6] rfl (kk S2 hzr))
  · skip
    refine gd_aload_n hC dL_law_187 rfl (j := 5) rfl ?_
    refine gd_iconst hC dL_law_188 ?_
    refine gd_lald hC hK (j := 0) rfl (by decide) rfl (by decide) (by decide) dL_law_189 (fun rl => ?_)
    refine gd_topl (y := e1) (hou c2) ?_
    refine gd_iload hC dL_law_190 (j := 0) rfl ?_
    refine gd_i2l hC qr dL_law_192 ?_
    refine gd_lcmp hC qr qr dL_law_193 ?_
    refine gd_top (y := 0) (zz_cmp0 _) ?_
    refine gd_if_eq hC dL_law_194 (tgt := 199) (by decide) zz_r0 (fun c3 => ?_) (fun c3 => absurd rfl c3)
    refine gd_goto hC dL_law_199 (tgt := 1596) (by decide) ?_
    exact gd_wide (by omega) (gd_sub [2, 3, 4, 5, 6] rfl (kk S2 hzr))

set_option maxHeartbeats 4000000 in
set_option maxRecDepth 100000 in
theorem lk_office {p : Program} {e : Env} {s : State} {m : MethodId} {below : List Frame} {meth : Method} {c : Code} {b L : Nat} {xs : Nat → Int32} {G : zz_G} {Y : zz_Y} {a : Nat → Nat} (l : Launch) (hl9 : l.stackTraces = false) (Hq : zq_ p s m meth c b L xs G Y) {S : zz_S} {n : Nat} (h : zr_ S n) (hnL : 4 * n + 4 ≤ L) (kk : ∀ S2 : zz_S, zr_ S2 (n + 1) → zg_ p l e s m b below meth c G a (20000 + 4 * (n + 1)) S2 1596 (zv_ b a n) []) : zg_ p l e s m b below meth c G a (20000 + 4 * n) S 202 (zv_ b a n) [] := by
  obtain ⟨hC, hts, hX, hbl, hL, hF, hr, hlk⟩ := Hq
  have hK := hF.2.1
  have hn : n < 512 := by omega
  have hI := zr_IC (by omega) h
  refine gd_lveq (lv' := [(0, .ref b), (1, .ref (a 0)), (2, .ref (a 77)), (3, .ref (a 99)), (4, zz_v ((4 * n : Nat) : Int))]) rfl ?_
  refine gd_aload_n hC dL_law_202 rfl (j := 1) rfl ?_
  refine gd_aload_n hC dL_law_203 rfl (j := 0) rfl ?_
  refine gd_iload hC dL_law_204 (j := 4) rfl ?_
  refine gd_iconst hC dL_law_206 ?_
  refine gd_iadd hC dL_law_207 ?_
  refine gd_sld hC hX hbl rfl hL (j := 4 * n + 1) (by omega) (by omega) dL_law_208 ?_
  refine gd_aload_n hC dL_law_209 rfl (j := 3) rfl ?_
  refine gd_callL (As := [.ref (a 0), zz_v ((xs (4 * n + 1)).toInt), .ref (a 99)]) (rest := []) hC hF (c_L_office l hl9 _ G Y a S ((xs (4 * n + 1)).toInt) (zz_rng _) hI) (vx_cwSW 3 hts gL_law_L_office rfl rfl rfl (by decide +kernel) ⟨by decide, by decide⟩) rfl rfl (Nat.le_of_ble_eq_true rfl) dL_law_210 (zg_room hn (by decide)) (fun r S1 hr1 hw => ?_)
  obtain ⟨hIM, e1, S2, z0, z1, z2, hth, hou, hzr⟩ := pl_office h hn ((xs (4 * n + 1)).toInt) (zz_rng _) hw
  refine gd_istore hC dL_law_213 (by decide) (lv' := [(5, zz_v r), (0, .ref b), (1, .ref (a 0)), (2, .ref (a 77)), (3, .ref (a 99)), (4, zz_v ((4 * n : Nat) : Int))]) rfl ?_
  refine gd_aload_n hC dL_law_215 rfl (j := 3) rfl ?_
  refine gd_aload_n hC dL_law_216 rfl (j := 1) rfl ?_
  refine gd_iload hC dL_law_217 (j := 5) rfl ?_
  refine gd_iconst hC dL_law_219 ?_
  refine gd_iadd hC dL_law_220 ?_
  refine gd_sld hC hX hbl rfl hL (j := 4 * n + 1) (by omega) (by omega) dL_law_221 ?_
  refine gd_callVR (As := [zz_v ((xs (4 * n + 1)).toInt)]) (rest := []) hC hF (fun hR => c_X4_office l hl9 _ G Y a S1 ((xs (4 * n + 1)).toInt) (zz_rng _) hIM e1 S2 z0 z1 z2) (cwV 1 hts gL_law_X4_office rfl rfl rfl (by decide +kernel) ⟨by decide, by decide⟩) rfl (by decide) (ci := 4) rfl rfl rfl rfl (Nat.le_of_ble_eq_true rfl) dL_law_222 (zg_room hn (by decide)) (fun E hx => zz_xn hx) (fun q qr => ?_)
  refine gd_istore hC dL_law_225 (by decide) (lv' := [(6, zz_v e1), (5, zz_v r), (0, .ref b), (1, .ref (a 0)), (2, .ref (a 77)), (3, .ref (a 99)), (4, zz_v ((4 * n : Nat) : Int))]) rfl ?_
  refine gd_aload_n hC dL_law_227 rfl (j := 4) rfl ?_
  refine gd_callVR (As := []) (rest := []) hC hF (fun hR => c_X4_thrown l hl9 _ G Y a S2) (cwV 0 hts gL_law_X4_thrown rfl rfl rfl (by decide +kernel) ⟨by decide, by decide⟩) rfl (by decide) (ci := 4) rfl rfl rfl rfl (Nat.le_of_ble_eq_true rfl) dL_law_228 (zg_room hn (by decide)) (fun E hx => zz_xn hx) (fun _ _ => ?_)
  refine gd_top (y := r) hth ?_
  refine gd_iload hC dL_law_231 (j := 1) rfl ?_
  refine gd_icmp_eq hC dL_law_233 (tgt := 238) (by decide) hr1 hr1 (fun c1 => ?_) (fun c1 => absurd rfl c1)
  refine gd_iload hC dL_law_238 (j := 1) rfl ?_
  refine gd_if_ne hC dL_law_240 (tgt := 255) (by decide) hr1 (fun c2 => ?_) (fun c2 => ?_)
  · skip
    refine gd_goto hC dL_law_255 (tgt := 1596) (by decide) ?_
    exact gd_wide (by omega) (gd_sub [2, 3, 4, 5, 6] rfl (kk S2 hzr))
  · skip
    refine gd_aload_n hC dL_law_243 rfl (j := 5) rfl ?_
    refine gd_iconst hC dL_law_244 ?_
    refine gd_lald hC hK (j := 0) rfl (by decide) rfl (by decide) (by decide) dL_law_245 (fun rl => ?_)
    refine gd_topl (y := e1) (hou c2) ?_
    refine gd_iload hC dL_law_246 (j := 0) rfl ?_
    refine gd_i2l hC qr dL_law_248 ?_
    refine gd_lcmp hC qr qr dL_law_249 ?_
    refine gd_top (y := 0) (zz_cmp0 _) ?_
    refine gd_if_eq hC dL_law_250 (tgt := 255) (by decide) zz_r0 (fun c3 => ?_) (fun c3 => absurd rfl c3)
    refine gd_goto hC dL_law_255 (tgt := 1596) (by decide) ?_
    exact gd_wide (by omega) (gd_sub [2, 3, 4, 5, 6] rfl (kk S2 hzr))

set_option maxHeartbeats 4000000 in
set_option maxRecDepth 100000 in
theorem lk_delegate {p : Program} {e : Env} {s : State} {m : MethodId} {below : List Frame} {meth : Method} {c : Code} {b L : Nat} {xs : Nat → Int32} {G : zz_G} {Y : zz_Y} {a : Nat → Nat} (l : Launch) (hl9 : l.stackTraces = false) (Hq : zq_ p s m meth c b L xs G Y) {S : zz_S} {n : Nat} (h : zr_ S n) (hnL : 4 * n + 4 ≤ L) (kk : ∀ S2 : zz_S, zr_ S2 (n + 1) → zg_ p l e s m b below meth c G a (20000 + 4 * (n + 1)) S2 1596 (zv_ b a n) []) : zg_ p l e s m b below meth c G a (20000 + 4 * n) S 258 (zv_ b a n) [] := by
  obtain ⟨hC, hts, hX, hbl, hL, hF, hr, hlk⟩ := Hq
  have hK := hF.2.1
  have hn : n < 512 := by omega
  have hI := zr_IC (by omega) h
  refine gd_lveq (lv' := [(0, .ref b), (1, .ref (a 0)), (2, .ref (a 77)), (3, .ref (a 99)), (4, zz_v ((4 * n : Nat) : Int))]) rfl ?_
  refine gd_aload_n hC dL_law_258 rfl (j := 1) rfl ?_
  refine gd_aload_n hC dL_law_259 rfl (j := 0) rfl ?_
  refine gd_iload hC dL_law_260 (j := 4) rfl ?_
  refine gd_iconst hC dL_law_262 ?_
  refine gd_iadd hC dL_law_263 ?_
  refine gd_sld hC hX hbl rfl hL (j := 4 * n + 1) (by omega) (by omega) dL_law_264 ?_
  refine gd_aload_n hC dL_law_265 rfl (j := 0) rfl ?_
  refine gd_iload hC dL_law_266 (j := 4) rfl ?_
  refine gd_iconst hC dL_law_268 ?_
  refine gd_iadd hC dL_law_269 ?_
  refine gd_sld hC hX hbl rfl hL (j := 4 * n + 2) (by omega) (by omega) dL_law_270 ?_
  refine gd_aload_n hC dL_law_271 rfl (j := 3) rfl ?_
  refine gd_callL (As := [.ref (a 0), zz_v ((xs (4 * n + 1)).toInt), zz_v ((xs (4 * n + 2)).toInt), .ref (a 99)]) (rest := []) hC hF (c_L_delegate l hl9 _ G Y a S ((xs (4 * n + 1)).toInt) ((xs (4 * n + 2)).toInt) (zz_rng _) (zz_rng _) (by have hd9 := h.2.2.2.1.1; omega) hI) (vx_cwSW 4 hts gL_law_L_delegate rfl rfl rfl (by decide +kernel) ⟨by decide, by decide⟩) rfl rfl (Nat.le_of_ble_eq_true rfl) dL_law_272 (zg_room hn (by decide)) (fun r S1 hr1 hw => ?_)
  obtain ⟨hIM, e1, S2, z0, z1, z2, hth, hou, hzr⟩ := pl_delegate h hn ((xs (4 * n + 1)).toInt) ((xs (4 * n + 2)).toInt) (zz_rng _) (zz_rng _) hw
  refine gd_istore hC dL_law_275 (by decide) (lv' := [(5, zz_v r), (0, .ref b), (1, .ref (a 0)), (2, .ref (a 77)), (3, .ref (a 99)), (4, zz_v ((4 * n : Nat) : Int))]) rfl ?_
  refine gd_aload_n hC dL_law_277 rfl (j := 3) rfl ?_
  refine gd_aload_n hC dL_law_278 rfl (j := 1) rfl ?_
  refine gd_iload hC dL_law_279 (j := 5) rfl ?_
  refine gd_iconst hC dL_law_281 ?_
  refine gd_iadd hC dL_law_282 ?_
  refine gd_sld hC hX hbl rfl hL (j := 4 * n + 1) (by omega) (by omega) dL_law_283 ?_
  refine gd_aload_n hC dL_law_284 rfl (j := 1) rfl ?_
  refine gd_iload hC dL_law_285 (j := 5) rfl ?_
  refine gd_iconst hC dL_law_287 ?_
  refine gd_iadd hC dL_law_288 ?_
  refine gd_sld hC hX hbl rfl hL (j := 4 * n + 2) (by omega) (by omega) dL_law_289 ?_
  refine gd_callVR (As := [zz_v ((xs (4 * n + 1)).toInt), zz_v ((xs (4 * n + 2)).toInt)]) (rest := []) hC hF (fun hR => c_X4_delegate l hl9 _ G Y a S1 ((xs (4 * n + 1)).toInt) ((xs (4 * n + 2)).toInt) (zz_rng _) (zz_rng _) hIM e1 S2 z0 z1 z2) (cwV 2 hts gL_law_X4_delegate rfl rfl rfl (by decide +kernel) ⟨by decide, by decide⟩) rfl (by decide) (ci := 4) rfl rfl rfl rfl (Nat.le_of_ble_eq_true rfl) dL_law_290 (zg_room hn (by decide)) (fun E hx => zz_xn hx) (fun q qr => ?_)
  refine gd_istore hC dL_law_293 (by decide) (lv' := [(6, zz_v e1), (5, zz_v r), (0, .ref b), (1, .ref (a 0)), (2, .ref (a 77)), (3, .ref (a 99)), (4, zz_v ((4 * n : Nat) : Int))]) rfl ?_
  refine gd_aload_n hC dL_law_295 rfl (j := 4) rfl ?_
  refine gd_callVR (As := []) (rest := []) hC hF (fun hR => c_X4_thrown l hl9 _ G Y a S2) (cwV 0 hts gL_law_X4_thrown rfl rfl rfl (by decide +kernel) ⟨by decide, by decide⟩) rfl (by decide) (ci := 4) rfl rfl rfl rfl (Nat.le_of_ble_eq_true rfl) dL_law_296 (zg_room hn (by decide)) (fun E hx => zz_xn hx) (fun _ _ => ?_)
  refine gd_top (y := r) hth ?_
  refine gd_iload hC dL_law_299 (j := 1) rfl ?_
  refine gd_icmp_eq hC dL_law_301 (tgt := 306) (by decide) hr1 hr1 (fun c1 => ?_) (fun c1 => absurd rfl c1)
  refine gd_iload hC dL_law_306 (j := 1) rfl ?_
  refine gd_if_ne hC dL_law_308 (tgt := 323) (by decide) hr1 (fun c2 => ?_) (fun c2 => ?_)
  · skip
    refine gd_goto hC dL_law_323 (tgt := 1596) (by decide) ?_
    exact gd_wide (by omega) (gd_sub [2, 3, 4, 5, 6] rfl (kk S2 hzr))
  · skip
    refine gd_aload_n hC dL_law_311 rfl (j := 5) rfl ?_
    refine gd_iconst hC dL_law_312 ?_
    refine gd_lald hC hK (j := 0) rfl (by decide) rfl (by decide) (by decide) dL_law_313 (fun rl => ?_)
    refine gd_topl (y := e1) (hou c2) ?_
    refine gd_iload hC dL_law_314 (j := 0) rfl ?_
    refine gd_i2l hC qr dL_law_316 ?_
    refine gd_lcmp hC qr qr dL_law_317 ?_
    refine gd_top (y := 0) (zz_cmp0 _) ?_
    refine gd_if_eq hC dL_law_318 (tgt := 323) (by decide) zz_r0 (fun c3 => ?_) (fun c3 => absurd rfl c3)
    refine gd_goto hC dL_law_323 (tgt := 1596) (by decide) ?_
    exact gd_wide (by omega) (gd_sub [2, 3, 4, 5, 6] rfl (kk S2 hzr))

set_option maxHeartbeats 4000000 in
set_option maxRecDepth 100000 in
theorem lk_whose {p : Program} {e : Env} {s : State} {m : MethodId} {below : List Frame} {meth : Method} {c : Code} {b L : Nat} {xs : Nat → Int32} {G : zz_G} {Y : zz_Y} {a : Nat → Nat} (l : Launch) (hl9 : l.stackTraces = false) (Hq : zq_ p s m meth c b L xs G Y) {S : zz_S} {n : Nat} (h : zr_ S n) (hnL : 4 * n + 4 ≤ L) (kk : ∀ S2 : zz_S, zr_ S2 (n + 1) → zg_ p l e s m b below meth c G a (20000 + 4 * (n + 1)) S2 1596 (zv_ b a n) []) : zg_ p l e s m b below meth c G a (20000 + 4 * n) S 326 (zv_ b a n) [] := by
  obtain ⟨hC, hts, hX, hbl, hL, hF, hr, hlk⟩ := Hq
  have hK := hF.2.1
  have hn : n < 512 := by omega
  have hI := zr_IC (by omega) h
  refine gd_lveq (lv' := [(0, .ref b), (1, .ref (a 0)), (2, .ref (a 77)), (3, .ref (a 99)), (4, zz_v ((4 * n : Nat) : Int))]) rfl ?_
  refine gd_aload_n hC dL_law_326 rfl (j := 1) rfl ?_
  refine gd_aload_n hC dL_law_327 rfl (j := 0) rfl ?_
  refine gd_iload hC dL_law_328 (j := 4) rfl ?_
  refine gd_iconst hC dL_law_330 ?_
  refine gd_iadd hC dL_law_331 ?_
  refine gd_sld hC hX hbl rfl hL (j := 4 * n + 1) (by omega) (by omega) dL_law_332 ?_
  refine gd_aload_n hC dL_law_333 rfl (j := 0) rfl ?_
  refine gd_iload hC dL_law_334 (j := 4) rfl ?_
  refine gd_iconst hC dL_law_336 ?_
  refine gd_iadd hC dL_law_337 ?_
  refine gd_sld hC hX hbl rfl hL (j := 4 * n + 2) (by omega) (by omega) dL_law_338 ?_
  refine gd_aload_n hC dL_law_339 rfl (j := 3) rfl ?_
  refine gd_callL (As := [.ref (a 0), zz_v ((xs (4 * n + 1)).toInt), zz_v ((xs (4 * n + 2)).toInt), .ref (a 99)]) (rest := []) hC hF (c_L_whose l hl9 _ G Y a S ((xs (4 * n + 1)).toInt) ((xs (4 * n + 2)).toInt) (zz_rng _) (zz_rng _) hI) (vx_cwSW 4 hts gL_law_L_whose rfl rfl rfl (by decide +kernel) ⟨by decide, by decide⟩) rfl rfl (Nat.le_of_ble_eq_true rfl) dL_law_340 (zg_room hn (by decide)) (fun r S1 hr1 hw => ?_)
  obtain ⟨hIM, e1, S2, z0, z1, z2, hth, hou, hzr⟩ := pl_whose h hn ((xs (4 * n + 1)).toInt) ((xs (4 * n + 2)).toInt) (zz_rng _) (zz_rng _) hw
  refine gd_istore hC dL_law_343 (by decide) (lv' := [(5, zz_v r), (0, .ref b), (1, .ref (a 0)), (2, .ref (a 77)), (3, .ref (a 99)), (4, zz_v ((4 * n : Nat) : Int))]) rfl ?_
  refine gd_aload_n hC dL_law_345 rfl (j := 3) rfl ?_
  refine gd_aload_n hC dL_law_346 rfl (j := 1) rfl ?_
  refine gd_iload hC dL_law_347 (j := 5) rfl ?_
  refine gd_iconst hC dL_law_349 ?_
  refine gd_iadd hC dL_law_350 ?_
  refine gd_sld hC hX hbl rfl hL (j := 4 * n + 1) (by omega) (by omega) dL_law_351 ?_
  refine gd_aload_n hC dL_law_352 rfl (j := 1) rfl ?_
  refine gd_iload hC dL_law_353 (j := 5) rfl ?_
  refine gd_iconst hC dL_law_355 ?_
  refine gd_iadd hC dL_law_356 ?_
  refine gd_sld hC hX hbl rfl hL (j := 4 * n + 2) (by omega) (by omega) dL_law_357 ?_
  refine gd_callVR (As := [zz_v ((xs (4 * n + 1)).toInt), zz_v ((xs (4 * n + 2)).toInt)]) (rest := []) hC hF (fun hR => c_X4_whose l hl9 _ G Y a S1 ((xs (4 * n + 1)).toInt) ((xs (4 * n + 2)).toInt) (zz_rng _) (zz_rng _) hIM e1 S2 z0 z1 z2) (cwV 2 hts gL_law_X4_whose rfl rfl rfl (by decide +kernel) ⟨by decide, by decide⟩) rfl (by decide) (ci := 4) rfl rfl rfl rfl (Nat.le_of_ble_eq_true rfl) dL_law_358 (zg_room hn (by decide)) (fun E hx => zz_xn hx) (fun q qr => ?_)
  refine gd_istore hC dL_law_361 (by decide) (lv' := [(6, zz_v e1), (5, zz_v r), (0, .ref b), (1, .ref (a 0)), (2, .ref (a 77)), (3, .ref (a 99)), (4, zz_v ((4 * n : Nat) : Int))]) rfl ?_
  refine gd_aload_n hC dL_law_363 rfl (j := 4) rfl ?_
  refine gd_callVR (As := []) (rest := []) hC hF (fun hR => c_X4_thrown l hl9 _ G Y a S2) (cwV 0 hts gL_law_X4_thrown rfl rfl rfl (by decide +kernel) ⟨by decide, by decide⟩) rfl (by decide) (ci := 4) rfl rfl rfl rfl (Nat.le_of_ble_eq_true rfl) dL_law_364 (zg_room hn (by decide)) (fun E hx => zz_xn hx) (fun _ _ => ?_)
  refine gd_top (y := r) hth ?_
  refine gd_iload hC dL_law_367 (j := 1) rfl ?_
  refine gd_icmp_eq hC dL_law_369 (tgt := 374) (by decide) hr1 hr1 (fun c1 => ?_) (fun c1 => absurd rfl c1)
  refine gd_iload hC dL_law_374 (j := 1) rfl ?_
  refine gd_if_ne hC dL_law_376 (tgt := 391) (by decide) hr1 (fun c2 => ?_) (fun c2 => ?_)
  · skip
    refine gd_goto hC dL_law_391 (tgt := 1596) (by decide) ?_
    exact gd_wide (by omega) (gd_sub [2, 3, 4, 5, 6] rfl (kk S2 hzr))
  · skip
    refine gd_aload_n hC dL_law_379 rfl (j := 5) rfl ?_
    refine gd_iconst hC dL_law_380 ?_
    refine gd_lald hC hK (j := 0) rfl (by decide) rfl (by decide) (by decide) dL_law_381 (fun rl => ?_)
    refine gd_topl (y := e1) (hou c2) ?_
    refine gd_iload hC dL_law_382 (j := 0) rfl ?_
    refine gd_i2l hC qr dL_law_384 ?_
    refine gd_lcmp hC qr qr dL_law_385 ?_
    refine gd_top (y := 0) (zz_cmp0 _) ?_
    refine gd_if_eq hC dL_law_386 (tgt := 391) (by decide) zz_r0 (fun c3 => ?_) (fun c3 => absurd rfl c3)
    refine gd_goto hC dL_law_391 (tgt := 1596) (by decide) ?_
    exact gd_wide (by omega) (gd_sub [2, 3, 4, 5, 6] rfl (kk S2 hzr))

set_option maxHeartbeats 4000000 in
set_option maxRecDepth 100000 in
theorem lk_limit {p : Program} {e : Env} {s : State} {m : MethodId} {below : List Frame} {meth : Method} {c : Code} {b L : Nat} {xs : Nat → Int32} {G : zz_G} {Y : zz_Y} {a : Nat → Nat} (l : Launch) (hl9 : l.stackTraces = false) (Hq : zq_ p s m meth c b L xs G Y) {S : zz_S} {n : Nat} (h : zr_ S n) (hnL : 4 * n + 4 ≤ L) (kk : ∀ S2 : zz_S, zr_ S2 (n + 1) → zg_ p l e s m b below meth c G a (20000 + 4 * (n + 1)) S2 1596 (zv_ b a n) []) : zg_ p l e s m b below meth c G a (20000 + 4 * n) S 394 (zv_ b a n) [] := by
  obtain ⟨hC, hts, hX, hbl, hL, hF, hr, hlk⟩ := Hq
  have hK := hF.2.1
  have hn : n < 512 := by omega
  have hI := zr_IC (by omega) h
  refine gd_lveq (lv' := [(0, .ref b), (1, .ref (a 0)), (2, .ref (a 77)), (3, .ref (a 99)), (4, zz_v ((4 * n : Nat) : Int))]) rfl ?_
  refine gd_aload_n hC dL_law_394 rfl (j := 1) rfl ?_
  refine gd_aload_n hC dL_law_395 rfl (j := 0) rfl ?_
  refine gd_iload hC dL_law_396 (j := 4) rfl ?_
  refine gd_iconst hC dL_law_398 ?_
  refine gd_iadd hC dL_law_399 ?_
  refine gd_sld hC hX hbl rfl hL (j := 4 * n + 1) (by omega) (by omega) dL_law_400 ?_
  refine gd_aload_n hC dL_law_401 rfl (j := 0) rfl ?_
  refine gd_iload hC dL_law_402 (j := 4) rfl ?_
  refine gd_iconst hC dL_law_404 ?_
  refine gd_iadd hC dL_law_405 ?_
  refine gd_sld hC hX hbl rfl hL (j := 4 * n + 2) (by omega) (by omega) dL_law_406 ?_
  refine gd_aload_n hC dL_law_407 rfl (j := 3) rfl ?_
  refine gd_callL (As := [.ref (a 0), zz_v ((xs (4 * n + 1)).toInt), zz_v ((xs (4 * n + 2)).toInt), .ref (a 99)]) (rest := []) hC hF (c_L_limit l hl9 _ G Y a S ((xs (4 * n + 1)).toInt) ((xs (4 * n + 2)).toInt) (zz_rng _) (zz_rng _) (by have hd9 := h.2.2.2.2.1.1; omega) hI) (vx_cwSW 4 hts gL_law_L_limit rfl rfl rfl (by decide +kernel) ⟨by decide, by decide⟩) rfl rfl (Nat.le_of_ble_eq_true rfl) dL_law_408 (zg_room hn (by decide)) (fun r S1 hr1 hw => ?_)
  obtain ⟨hIM, e1, S2, z0, z1, z2, hth, hou, hzr⟩ := pl_limit h hn ((xs (4 * n + 1)).toInt) ((xs (4 * n + 2)).toInt) (zz_rng _) (zz_rng _) hw
  refine gd_istore hC dL_law_411 (by decide) (lv' := [(5, zz_v r), (0, .ref b), (1, .ref (a 0)), (2, .ref (a 77)), (3, .ref (a 99)), (4, zz_v ((4 * n : Nat) : Int))]) rfl ?_
  refine gd_aload_n hC dL_law_413 rfl (j := 3) rfl ?_
  refine gd_aload_n hC dL_law_414 rfl (j := 1) rfl ?_
  refine gd_iload hC dL_law_415 (j := 5) rfl ?_
  refine gd_iconst hC dL_law_417 ?_
  refine gd_iadd hC dL_law_418 ?_
  refine gd_sld hC hX hbl rfl hL (j := 4 * n + 1) (by omega) (by omega) dL_law_419 ?_
  refine gd_aload_n hC dL_law_420 rfl (j := 1) rfl ?_
  refine gd_iload hC dL_law_421 (j := 5) rfl ?_
  refine gd_iconst hC dL_law_423 ?_
  refine gd_iadd hC dL_law_424 ?_
  refine gd_sld hC hX hbl rfl hL (j := 4 * n + 2) (by omega) (by omega) dL_law_425 ?_
  refine gd_callVR (As := [zz_v ((xs (4 * n + 1)).toInt), zz_v ((xs (4 * n + 2)).toInt)]) (rest := []) hC hF (fun hR => c_X4_limit l hl9 _ G Y a S1 ((xs (4 * n + 1)).toInt) ((xs (4 * n + 2)).toInt) (zz_rng _) (zz_rng _) hIM e1 S2 z0 z1 z2) (cwV 2 hts gL_law_X4_limit rfl rfl rfl (by decide +kernel) ⟨by decide, by decide⟩) rfl (by decide) (ci := 4) rfl rfl rfl rfl (Nat.le_of_ble_eq_true rfl) dL_law_426 (zg_room hn (by decide)) (fun E hx => zz_xn hx) (fun q qr => ?_)
  refine gd_istore hC dL_law_429 (by decide) (lv' := [(6, zz_v e1), (5, zz_v r), (0, .ref b), (1, .ref (a 0)), (2, .ref (a 77)), (3, .ref (a 99)), (4, zz_v ((4 * n : Nat) : Int))]) rfl ?_
  refine gd_aload_n hC dL_law_431 rfl (j := 4) rfl ?_
  refine gd_callVR (As := []) (rest := []) hC hF (fun hR => c_X4_thrown l hl9 _ G Y a S2) (cwV 0 hts gL_law_X4_thrown rfl rfl rfl (by decide +kernel) ⟨by decide, by decide⟩) rfl (by decide) (ci := 4) rfl rfl rfl rfl (Nat.le_of_ble_eq_true rfl) dL_law_432 (zg_room hn (by decide)) (fun E hx => zz_xn hx) (fun _ _ => ?_)
  refine gd_top (y := r) hth ?_
  refine gd_iload hC dL_law_435 (j := 1) rfl ?_
  refine gd_icmp_eq hC dL_law_437 (tgt := 442) (by decide) hr1 hr1 (fun c1 => ?_) (fun c1 => absurd rfl c1)
  refine gd_iload hC dL_law_442 (j := 1) rfl ?_
  refine gd_if_ne hC dL_law_444 (tgt := 459) (by decide) hr1 (fun c2 => ?_) (fun c2 => ?_)
  · skip
    refine gd_goto hC dL_law_459 (tgt := 1596) (by decide) ?_
    exact gd_wide (by omega) (gd_sub [2, 3, 4, 5, 6] rfl (kk S2 hzr))
  · skip
    refine gd_aload_n hC dL_law_447 rfl (j := 5) rfl ?_
    refine gd_iconst hC dL_law_448 ?_
    refine gd_lald hC hK (j := 0) rfl (by decide) rfl (by decide) (by decide) dL_law_449 (fun rl => ?_)
    refine gd_topl (y := e1) (hou c2) ?_
    refine gd_iload hC dL_law_450 (j := 0) rfl ?_
    refine gd_i2l hC qr dL_law_452 ?_
    refine gd_lcmp hC qr qr dL_law_453 ?_
    refine gd_top (y := 0) (zz_cmp0 _) ?_
    refine gd_if_eq hC dL_law_454 (tgt := 459) (by decide) zz_r0 (fun c3 => ?_) (fun c3 => absurd rfl c3)
    refine gd_goto hC dL_law_459 (tgt := 1596) (by decide) ?_
    exact gd_wide (by omega) (gd_sub [2, 3, 4, 5, 6] rfl (kk S2 hzr))

set_option maxHeartbeats 4000000 in
set_option maxRecDepth 100000 in
theorem lk_act {p : Program} {e : Env} {s : State} {m : MethodId} {below : List Frame} {meth : Method} {c : Code} {b L : Nat} {xs : Nat → Int32} {G : zz_G} {Y : zz_Y} {a : Nat → Nat} (l : Launch) (hl9 : l.stackTraces = false) (Hq : zq_ p s m meth c b L xs G Y) {S : zz_S} {n : Nat} (h : zr_ S n) (hnL : 4 * n + 4 ≤ L) (kk : ∀ S2 : zz_S, zr_ S2 (n + 1) → zg_ p l e s m b below meth c G a (20000 + 4 * (n + 1)) S2 1596 (zv_ b a n) []) : zg_ p l e s m b below meth c G a (20000 + 4 * n) S 462 (zv_ b a n) [] := by
  obtain ⟨hC, hts, hX, hbl, hL, hF, hr, hlk⟩ := Hq
  have hK := hF.2.1
  have hn : n < 512 := by omega
  have hI := zr_IC (by omega) h
  refine gd_lveq (lv' := [(0, .ref b), (1, .ref (a 0)), (2, .ref (a 77)), (3, .ref (a 99)), (4, zz_v ((4 * n : Nat) : Int))]) rfl ?_
  refine gd_aload_n hC dL_law_462 rfl (j := 1) rfl ?_
  refine gd_aload_n hC dL_law_463 rfl (j := 0) rfl ?_
  refine gd_iload hC dL_law_464 (j := 4) rfl ?_
  refine gd_iconst hC dL_law_466 ?_
  refine gd_iadd hC dL_law_467 ?_
  refine gd_sld hC hX hbl rfl hL (j := 4 * n + 1) (by omega) (by omega) dL_law_468 ?_
  refine gd_aload_n hC dL_law_469 rfl (j := 0) rfl ?_
  refine gd_iload hC dL_law_470 (j := 4) rfl ?_
  refine gd_iconst hC dL_law_472 ?_
  refine gd_iadd hC dL_law_473 ?_
  refine gd_sld hC hX hbl rfl hL (j := 4 * n + 2) (by omega) (by omega) dL_law_474 ?_
  refine gd_aload_n hC dL_law_475 rfl (j := 0) rfl ?_
  refine gd_iload hC dL_law_476 (j := 4) rfl ?_
  refine gd_iconst hC dL_law_478 ?_
  refine gd_iadd hC dL_law_479 ?_
  refine gd_sld hC hX hbl rfl hL (j := 4 * n + 3) (by omega) (by omega) dL_law_480 ?_
  refine gd_aload_n hC dL_law_481 rfl (j := 3) rfl ?_
  refine gd_callL (As := [.ref (a 0), zz_v ((xs (4 * n + 1)).toInt), zz_v ((xs (4 * n + 2)).toInt), zz_v ((xs (4 * n + 3)).toInt), .ref (a 99)]) (rest := []) hC hF (c_L_act l hl9 _ G Y a S ((xs (4 * n + 1)).toInt) ((xs (4 * n + 2)).toInt) ((xs (4 * n + 3)).toInt) (zz_rng _) (zz_rng _) (zz_rng _) hI) (vx_cwSW 5 hts gL_law_L_act rfl rfl rfl (by decide +kernel) ⟨by decide, by decide⟩) rfl rfl (Nat.le_of_ble_eq_true rfl) dL_law_482 (zg_room hn (by decide)) (fun r S1 hr1 hw => ?_)
  obtain ⟨hIM, e1, S2, z0, z1, z2, z3, z4, hth, hou, hzr⟩ := pl_act h hn ((xs (4 * n + 1)).toInt) ((xs (4 * n + 2)).toInt) ((xs (4 * n + 3)).toInt) (zz_rng _) (zz_rng _) (zz_rng _) hw
  refine gd_istore hC dL_law_485 (by decide) (lv' := [(5, zz_v r), (0, .ref b), (1, .ref (a 0)), (2, .ref (a 77)), (3, .ref (a 99)), (4, zz_v ((4 * n : Nat) : Int))]) rfl ?_
  refine gd_aload_n hC dL_law_487 rfl (j := 3) rfl ?_
  refine gd_aload_n hC dL_law_488 rfl (j := 1) rfl ?_
  refine gd_iload hC dL_law_489 (j := 5) rfl ?_
  refine gd_iconst hC dL_law_491 ?_
  refine gd_iadd hC dL_law_492 ?_
  refine gd_sld hC hX hbl rfl hL (j := 4 * n + 1) (by omega) (by omega) dL_law_493 ?_
  refine gd_aload_n hC dL_law_494 rfl (j := 1) rfl ?_
  refine gd_iload hC dL_law_495 (j := 5) rfl ?_
  refine gd_iconst hC dL_law_497 ?_
  refine gd_iadd hC dL_law_498 ?_
  refine gd_sld hC hX hbl rfl hL (j := 4 * n + 2) (by omega) (by omega) dL_law_499 ?_
  refine gd_aload_n hC dL_law_500 rfl (j := 1) rfl ?_
  refine gd_iload hC dL_law_501 (j := 5) rfl ?_
  refine gd_iconst hC dL_law_503 ?_
  refine gd_iadd hC dL_law_504 ?_
  refine gd_sld hC hX hbl rfl hL (j := 4 * n + 3) (by omega) (by omega) dL_law_505 ?_
  refine gd_callVR (As := [zz_v ((xs (4 * n + 1)).toInt), zz_v ((xs (4 * n + 2)).toInt), zz_v ((xs (4 * n + 3)).toInt)]) (rest := []) hC hF (fun hR => c_X4_act l hl9 _ G Y a S1 ((xs (4 * n + 1)).toInt) ((xs (4 * n + 2)).toInt) ((xs (4 * n + 3)).toInt) (zz_rng _) (zz_rng _) (zz_rng _) hIM e1 S2 z0 z1 z2 z3 z4) (cwV 3 hts gL_law_X4_act rfl rfl rfl (by decide +kernel) ⟨by decide, by decide⟩) rfl (by decide) (ci := 4) rfl rfl rfl rfl (Nat.le_of_ble_eq_true rfl) dL_law_506 (zg_room hn (by decide)) (fun E hx => zz_xn hx) (fun q qr => ?_)
  refine gd_istore hC dL_law_509 (by decide) (lv' := [(6, zz_v e1), (5, zz_v r), (0, .ref b), (1, .ref (a 0)), (2, .ref (a 77)), (3, .ref (a 99)), (4, zz_v ((4 * n : Nat) : Int))]) rfl ?_
  refine gd_aload_n hC dL_law_511 rfl (j := 4) rfl ?_
  refine gd_callVR (As := []) (rest := []) hC hF (fun hR => c_X4_thrown l hl9 _ G Y a S2) (cwV 0 hts gL_law_X4_thrown rfl rfl rfl (by decide +kernel) ⟨by decide, by decide⟩) rfl (by decide) (ci := 4) rfl rfl rfl rfl (Nat.le_of_ble_eq_true rfl) dL_law_512 (zg_room hn (by decide)) (fun E hx => zz_xn hx) (fun _ _ => ?_)
  refine gd_top (y := r) hth ?_
  refine gd_iload hC dL_law_515 (j := 1) rfl ?_
  refine gd_icmp_eq hC dL_law_517 (tgt := 522) (by decide) hr1 hr1 (fun c1 => ?_) (fun c1 => absurd rfl c1)
  refine gd_iload hC dL_law_522 (j := 1) rfl ?_
  refine gd_if_ne hC dL_law_524 (tgt := 539) (by decide) hr1 (fun c2 => ?_) (fun c2 => ?_)
  · skip
    refine gd_goto hC dL_law_539 (tgt := 1596) (by decide) ?_
    exact gd_wide (by omega) (gd_sub [2, 3, 4, 5, 6] rfl (kk S2 hzr))
  · skip
    refine gd_aload_n hC dL_law_527 rfl (j := 5) rfl ?_
    refine gd_iconst hC dL_law_528 ?_
    refine gd_lald hC hK (j := 0) rfl (by decide) rfl (by decide) (by decide) dL_law_529 (fun rl => ?_)
    refine gd_topl (y := e1) (hou c2) ?_
    refine gd_iload hC dL_law_530 (j := 0) rfl ?_
    refine gd_i2l hC qr dL_law_532 ?_
    refine gd_lcmp hC qr qr dL_law_533 ?_
    refine gd_top (y := 0) (zz_cmp0 _) ?_
    refine gd_if_eq hC dL_law_534 (tgt := 539) (by decide) zz_r0 (fun c3 => ?_) (fun c3 => absurd rfl c3)
    refine gd_goto hC dL_law_539 (tgt := 1596) (by decide) ?_
    exact gd_wide (by omega) (gd_sub [2, 3, 4, 5, 6] rfl (kk S2 hzr))

set_option maxHeartbeats 4000000 in
set_option maxRecDepth 100000 in
theorem lk_court {p : Program} {e : Env} {s : State} {m : MethodId} {below : List Frame} {meth : Method} {c : Code} {b L : Nat} {xs : Nat → Int32} {G : zz_G} {Y : zz_Y} {a : Nat → Nat} (l : Launch) (hl9 : l.stackTraces = false) (Hq : zq_ p s m meth c b L xs G Y) {S : zz_S} {n : Nat} (h : zr_ S n) (hnL : 4 * n + 4 ≤ L) (kk : ∀ S2 : zz_S, zr_ S2 (n + 1) → zg_ p l e s m b below meth c G a (20000 + 4 * (n + 1)) S2 1596 (zv_ b a n) []) : zg_ p l e s m b below meth c G a (20000 + 4 * n) S 542 (zv_ b a n) [] := by
  obtain ⟨hC, hts, hX, hbl, hL, hF, hr, hlk⟩ := Hq
  have hK := hF.2.1
  have hn : n < 512 := by omega
  have hI := zr_IC (by omega) h
  refine gd_lveq (lv' := [(0, .ref b), (1, .ref (a 0)), (2, .ref (a 77)), (3, .ref (a 99)), (4, zz_v ((4 * n : Nat) : Int))]) rfl ?_
  refine gd_aload_n hC dL_law_542 rfl (j := 1) rfl ?_
  refine gd_aload_n hC dL_law_543 rfl (j := 0) rfl ?_
  refine gd_iload hC dL_law_544 (j := 4) rfl ?_
  refine gd_iconst hC dL_law_546 ?_
  refine gd_iadd hC dL_law_547 ?_
  refine gd_sld hC hX hbl rfl hL (j := 4 * n + 1) (by omega) (by omega) dL_law_548 ?_
  refine gd_aload_n hC dL_law_549 rfl (j := 0) rfl ?_
  refine gd_iload hC dL_law_550 (j := 4) rfl ?_
  refine gd_iconst hC dL_law_552 ?_
  refine gd_iadd hC dL_law_553 ?_
  refine gd_sld hC hX hbl rfl hL (j := 4 * n + 2) (by omega) (by omega) dL_law_554 ?_
  refine gd_bool hC dL_law_555 (t := 562) (by decide) (zz_rng _) dL_law_558 dL_law_559 (t2 := 563) (by decide) dL_law_562 (by decide) ?_
  refine gd_aload_n hC dL_law_563 rfl (j := 3) rfl ?_
  refine gd_callL (As := [.ref (a 0), zz_v ((xs (4 * n + 1)).toInt), zz_v (if (xs (4 * n + 2)).toInt = 0 then 0 else 1), .ref (a 99)]) (rest := []) hC hF (c_L_court l hl9 _ G Y a S ((xs (4 * n + 1)).toInt) (if (xs (4 * n + 2)).toInt = 0 then 0 else 1) (zz_rng _) (by split <;> simp) hI) (vx_cwSW 4 hts gL_law_L_court rfl rfl rfl (by decide +kernel) ⟨by decide, by decide⟩) rfl rfl (Nat.le_of_ble_eq_true rfl) dL_law_564 (zg_room hn (by decide)) (fun r S1 hr1 hw => ?_)
  obtain ⟨hIM, e1, S2, hbo, z0, z1, hth, hou, hzr⟩ := pl_court h hn ((xs (4 * n + 1)).toInt) (if (xs (4 * n + 2)).toInt = 0 then 0 else 1) (zz_rng _) (by split <;> simp) hw
  refine gd_istore hC dL_law_567 (by decide) (lv' := [(5, zz_v r), (0, .ref b), (1, .ref (a 0)), (2, .ref (a 77)), (3, .ref (a 99)), (4, zz_v ((4 * n : Nat) : Int))]) rfl ?_
  refine gd_aload_n hC dL_law_569 rfl (j := 3) rfl ?_
  refine gd_aload_n hC dL_law_570 rfl (j := 1) rfl ?_
  refine gd_iload hC dL_law_571 (j := 5) rfl ?_
  refine gd_iconst hC dL_law_573 ?_
  refine gd_iadd hC dL_law_574 ?_
  refine gd_sld hC hX hbl rfl hL (j := 4 * n + 1) (by omega) (by omega) dL_law_575 ?_
  refine gd_aload_n hC dL_law_576 rfl (j := 1) rfl ?_
  refine gd_iload hC dL_law_577 (j := 5) rfl ?_
  refine gd_iconst hC dL_law_579 ?_
  refine gd_iadd hC dL_law_580 ?_
  refine gd_sld hC hX hbl rfl hL (j := 4 * n + 2) (by omega) (by omega) dL_law_581 ?_
  refine gd_bool hC dL_law_582 (t := 589) (by decide) (zz_rng _) dL_law_585 dL_law_586 (t2 := 590) (by decide) dL_law_589 (by decide) ?_
  refine gd_callVR (As := [zz_v ((xs (4 * n + 1)).toInt), zz_v (if (xs (4 * n + 2)).toInt = 0 then 0 else 1)]) (rest := []) hC hF (fun hR => c_X4_court l hl9 _ G Y a S1 ((xs (4 * n + 1)).toInt) (if (xs (4 * n + 2)).toInt = 0 then 0 else 1) (zz_rng _) (by split <;> simp) hIM e1 S2 z0 z1) (cwV 2 hts gL_law_X4_court rfl rfl rfl (by decide +kernel) ⟨by decide, by decide⟩) rfl (by decide) (ci := 4) rfl rfl rfl rfl (Nat.le_of_ble_eq_true rfl) dL_law_590 (zg_room hn (by decide)) (fun E hx => zz_xn hx) (fun q qr => ?_)
  refine gd_istore hC dL_law_593 (by decide) (lv' := [(6, zz_v e1), (5, zz_v r), (0, .ref b), (1, .ref (a 0)), (2, .ref (a 77)), (3, .ref (a 99)), (4, zz_v ((4 * n : Nat) : Int))]) rfl ?_
  refine gd_aload_n hC dL_law_595 rfl (j := 4) rfl ?_
  refine gd_callVR (As := []) (rest := []) hC hF (fun hR => c_X4_thrown l hl9 _ G Y a S2) (cwV 0 hts gL_law_X4_thrown rfl rfl rfl (by decide +kernel) ⟨by decide, by decide⟩) rfl (by decide) (ci := 4) rfl rfl rfl rfl (Nat.le_of_ble_eq_true rfl) dL_law_596 (zg_room hn (by decide)) (fun E hx => zz_xn hx) (fun _ _ => ?_)
  refine gd_top (y := r) hth ?_
  refine gd_iload hC dL_law_599 (j := 1) rfl ?_
  refine gd_icmp_eq hC dL_law_601 (tgt := 606) (by decide) hr1 hr1 (fun c1 => ?_) (fun c1 => absurd rfl c1)
  refine gd_iload hC dL_law_606 (j := 1) rfl ?_
  refine gd_if_ne hC dL_law_608 (tgt := 630) (by decide) hr1 (fun c2 => ?_) (fun c2 => ?_)
  · skip
    refine gd_goto hC dL_law_630 (tgt := 1596) (by decide) ?_
    exact gd_wide (by omega) (gd_sub [2, 3, 4, 5, 6] rfl (kk S2 hzr))
  · skip
    refine gd_aload_n hC dL_law_611 rfl (j := 5) rfl ?_
    refine gd_iconst hC dL_law_612 ?_
    refine gd_lald hC hK (j := 0) rfl (by decide) rfl (by decide) (by decide) dL_law_613 (fun rl => ?_)
    refine gd_topl (y := e1) (hou c2) ?_
    refine gd_iload hC dL_law_614 (j := 0) rfl ?_
    refine gd_if_eq hC dL_law_616 (tgt := 623) (by decide) qr (fun c3 => ?_) (fun c3 => ?_)
    · skip
      refine gd_lconst hC dL_law_623 (z := 0) rfl ?_
      refine gd_topl (y := e1) (by omega) ?_
      refine gd_lcmp hC qr qr dL_law_624 ?_
      refine gd_top (y := 0) (zz_cmp0 _) ?_
      refine gd_if_eq hC dL_law_625 (tgt := 630) (by decide) zz_r0 (fun c4 => ?_) (fun c4 => absurd rfl c4)
      refine gd_goto hC dL_law_630 (tgt := 1596) (by decide) ?_
      exact gd_wide (by omega) (gd_sub [2, 3, 4, 5, 6] rfl (kk S2 hzr))
    · skip
      refine gd_lconst hC dL_law_619 (z := 1) rfl ?_
      refine gd_goto hC dL_law_620 (tgt := 624) (by decide) ?_
      refine gd_topl (y := e1) (by omega) ?_
      refine gd_lcmp hC qr qr dL_law_624 ?_
      refine gd_top (y := 0) (zz_cmp0 _) ?_
      refine gd_if_eq hC dL_law_625 (tgt := 630) (by decide) zz_r0 (fun c4 => ?_) (fun c4 => absurd rfl c4)
      refine gd_goto hC dL_law_630 (tgt := 1596) (by decide) ?_
      exact gd_wide (by omega) (gd_sub [2, 3, 4, 5, 6] rfl (kk S2 hzr))

set_option maxHeartbeats 4000000 in
set_option maxRecDepth 100000 in
theorem lk_waive {p : Program} {e : Env} {s : State} {m : MethodId} {below : List Frame} {meth : Method} {c : Code} {b L : Nat} {xs : Nat → Int32} {G : zz_G} {Y : zz_Y} {a : Nat → Nat} (l : Launch) (hl9 : l.stackTraces = false) (Hq : zq_ p s m meth c b L xs G Y) {S : zz_S} {n : Nat} (h : zr_ S n) (hnL : 4 * n + 4 ≤ L) (kk : ∀ S2 : zz_S, zr_ S2 (n + 1) → zg_ p l e s m b below meth c G a (20000 + 4 * (n + 1)) S2 1596 (zv_ b a n) []) : zg_ p l e s m b below meth c G a (20000 + 4 * n) S 633 (zv_ b a n) [] := by
  obtain ⟨hC, hts, hX, hbl, hL, hF, hr, hlk⟩ := Hq
  have hK := hF.2.1
  have hn : n < 512 := by omega
  have hI := zr_IC (by omega) h
  refine gd_lveq (lv' := [(0, .ref b), (1, .ref (a 0)), (2, .ref (a 77)), (3, .ref (a 99)), (4, zz_v ((4 * n : Nat) : Int))]) rfl ?_
  refine gd_aload_n hC dL_law_633 rfl (j := 1) rfl ?_
  refine gd_aload_n hC dL_law_634 rfl (j := 0) rfl ?_
  refine gd_iload hC dL_law_635 (j := 4) rfl ?_
  refine gd_iconst hC dL_law_637 ?_
  refine gd_iadd hC dL_law_638 ?_
  refine gd_sld hC hX hbl rfl hL (j := 4 * n + 1) (by omega) (by omega) dL_law_639 ?_
  refine gd_aload_n hC dL_law_640 rfl (j := 0) rfl ?_
  refine gd_iload hC dL_law_641 (j := 4) rfl ?_
  refine gd_iconst hC dL_law_643 ?_
  refine gd_iadd hC dL_law_644 ?_
  refine gd_sld hC hX hbl rfl hL (j := 4 * n + 2) (by omega) (by omega) dL_law_645 ?_
  refine gd_bool hC dL_law_646 (t := 653) (by decide) (zz_rng _) dL_law_649 dL_law_650 (t2 := 654) (by decide) dL_law_653 (by decide) ?_
  refine gd_aload_n hC dL_law_654 rfl (j := 3) rfl ?_
  refine gd_callL (As := [.ref (a 0), zz_v ((xs (4 * n + 1)).toInt), zz_v (if (xs (4 * n + 2)).toInt = 0 then 0 else 1), .ref (a 99)]) (rest := []) hC hF (c_L_waive l hl9 _ G Y a S ((xs (4 * n + 1)).toInt) (if (xs (4 * n + 2)).toInt = 0 then 0 else 1) (zz_rng _) (by split <;> simp) hI) (vx_cwSW 4 hts gL_law_L_waive rfl rfl rfl (by decide +kernel) ⟨by decide, by decide⟩) rfl rfl (Nat.le_of_ble_eq_true rfl) dL_law_655 (zg_room hn (by decide)) (fun r S1 hr1 hw => ?_)
  obtain ⟨hIM, e1, S2, hbo, z0, z1, hth, hou, hzr⟩ := pl_waive h hn ((xs (4 * n + 1)).toInt) (if (xs (4 * n + 2)).toInt = 0 then 0 else 1) (zz_rng _) (by split <;> simp) hw
  refine gd_istore hC dL_law_658 (by decide) (lv' := [(5, zz_v r), (0, .ref b), (1, .ref (a 0)), (2, .ref (a 77)), (3, .ref (a 99)), (4, zz_v ((4 * n : Nat) : Int))]) rfl ?_
  refine gd_aload_n hC dL_law_660 rfl (j := 3) rfl ?_
  refine gd_aload_n hC dL_law_661 rfl (j := 1) rfl ?_
  refine gd_iload hC dL_law_662 (j := 5) rfl ?_
  refine gd_iconst hC dL_law_664 ?_
  refine gd_iadd hC dL_law_665 ?_
  refine gd_sld hC hX hbl rfl hL (j := 4 * n + 1) (by omega) (by omega) dL_law_666 ?_
  refine gd_aload_n hC dL_law_667 rfl (j := 1) rfl ?_
  refine gd_iload hC dL_law_668 (j := 5) rfl ?_
  refine gd_iconst hC dL_law_670 ?_
  refine gd_iadd hC dL_law_671 ?_
  refine gd_sld hC hX hbl rfl hL (j := 4 * n + 2) (by omega) (by omega) dL_law_672 ?_
  refine gd_bool hC dL_law_673 (t := 680) (by decide) (zz_rng _) dL_law_676 dL_law_677 (t2 := 681) (by decide) dL_law_680 (by decide) ?_
  refine gd_callVR (As := [zz_v ((xs (4 * n + 1)).toInt), zz_v (if (xs (4 * n + 2)).toInt = 0 then 0 else 1)]) (rest := []) hC hF (fun hR => c_X4_waive l hl9 _ G Y a S1 ((xs (4 * n + 1)).toInt) (if (xs (4 * n + 2)).toInt = 0 then 0 else 1) (zz_rng _) (by split <;> simp) hIM e1 S2 z0 z1) (cwV 2 hts gL_law_X4_waive rfl rfl rfl (by decide +kernel) ⟨by decide, by decide⟩) rfl (by decide) (ci := 4) rfl rfl rfl rfl (Nat.le_of_ble_eq_true rfl) dL_law_681 (zg_room hn (by decide)) (fun E hx => zz_xn hx) (fun q qr => ?_)
  refine gd_istore hC dL_law_684 (by decide) (lv' := [(6, zz_v e1), (5, zz_v r), (0, .ref b), (1, .ref (a 0)), (2, .ref (a 77)), (3, .ref (a 99)), (4, zz_v ((4 * n : Nat) : Int))]) rfl ?_
  refine gd_aload_n hC dL_law_686 rfl (j := 4) rfl ?_
  refine gd_callVR (As := []) (rest := []) hC hF (fun hR => c_X4_thrown l hl9 _ G Y a S2) (cwV 0 hts gL_law_X4_thrown rfl rfl rfl (by decide +kernel) ⟨by decide, by decide⟩) rfl (by decide) (ci := 4) rfl rfl rfl rfl (Nat.le_of_ble_eq_true rfl) dL_law_687 (zg_room hn (by decide)) (fun E hx => zz_xn hx) (fun _ _ => ?_)
  refine gd_top (y := r) hth ?_
  refine gd_iload hC dL_law_690 (j := 1) rfl ?_
  refine gd_icmp_eq hC dL_law_692 (tgt := 697) (by decide) hr1 hr1 (fun c1 => ?_) (fun c1 => absurd rfl c1)
  refine gd_iload hC dL_law_697 (j := 1) rfl ?_
  refine gd_if_ne hC dL_law_699 (tgt := 721) (by decide) hr1 (fun c2 => ?_) (fun c2 => ?_)
  · skip
    refine gd_goto hC dL_law_721 (tgt := 1596) (by decide) ?_
    exact gd_wide (by omega) (gd_sub [2, 3, 4, 5, 6] rfl (kk S2 hzr))
  · skip
    refine gd_aload_n hC dL_law_702 rfl (j := 5) rfl ?_
    refine gd_iconst hC dL_law_703 ?_
    refine gd_lald hC hK (j := 0) rfl (by decide) rfl (by decide) (by decide) dL_law_704 (fun rl => ?_)
    refine gd_topl (y := e1) (hou c2) ?_
    refine gd_iload hC dL_law_705 (j := 0) rfl ?_
    refine gd_if_eq hC dL_law_707 (tgt := 714) (by decide) qr (fun c3 => ?_) (fun c3 => ?_)
    · skip
      refine gd_lconst hC dL_law_714 (z := 0) rfl ?_
      refine gd_topl (y := e1) (by omega) ?_
      refine gd_lcmp hC qr qr dL_law_715 ?_
      refine gd_top (y := 0) (zz_cmp0 _) ?_
      refine gd_if_eq hC dL_law_716 (tgt := 721) (by decide) zz_r0 (fun c4 => ?_) (fun c4 => absurd rfl c4)
      refine gd_goto hC dL_law_721 (tgt := 1596) (by decide) ?_
      exact gd_wide (by omega) (gd_sub [2, 3, 4, 5, 6] rfl (kk S2 hzr))
    · skip
      refine gd_lconst hC dL_law_710 (z := 1) rfl ?_
      refine gd_goto hC dL_law_711 (tgt := 715) (by decide) ?_
      refine gd_topl (y := e1) (by omega) ?_
      refine gd_lcmp hC qr qr dL_law_715 ?_
      refine gd_top (y := 0) (zz_cmp0 _) ?_
      refine gd_if_eq hC dL_law_716 (tgt := 721) (by decide) zz_r0 (fun c4 => ?_) (fun c4 => absurd rfl c4)
      refine gd_goto hC dL_law_721 (tgt := 1596) (by decide) ?_
      exact gd_wide (by omega) (gd_sub [2, 3, 4, 5, 6] rfl (kk S2 hzr))

set_option maxHeartbeats 4000000 in
set_option maxRecDepth 100000 in
theorem lk_plea {p : Program} {e : Env} {s : State} {m : MethodId} {below : List Frame} {meth : Method} {c : Code} {b L : Nat} {xs : Nat → Int32} {G : zz_G} {Y : zz_Y} {a : Nat → Nat} (l : Launch) (hl9 : l.stackTraces = false) (Hq : zq_ p s m meth c b L xs G Y) {S : zz_S} {n : Nat} (h : zr_ S n) (hnL : 4 * n + 4 ≤ L) (kk : ∀ S2 : zz_S, zr_ S2 (n + 1) → zg_ p l e s m b below meth c G a (20000 + 4 * (n + 1)) S2 1596 (zv_ b a n) []) : zg_ p l e s m b below meth c G a (20000 + 4 * n) S 724 (zv_ b a n) [] := by
  obtain ⟨hC, hts, hX, hbl, hL, hF, hr, hlk⟩ := Hq
  have hK := hF.2.1
  have hn : n < 512 := by omega
  have hI := zr_IC (by omega) h
  refine gd_lveq (lv' := [(0, .ref b), (1, .ref (a 0)), (2, .ref (a 77)), (3, .ref (a 99)), (4, zz_v ((4 * n : Nat) : Int))]) rfl ?_
  refine gd_aload_n hC dL_law_724 rfl (j := 1) rfl ?_
  refine gd_aload_n hC dL_law_725 rfl (j := 0) rfl ?_
  refine gd_iload hC dL_law_726 (j := 4) rfl ?_
  refine gd_iconst hC dL_law_728 ?_
  refine gd_iadd hC dL_law_729 ?_
  refine gd_sld hC hX hbl rfl hL (j := 4 * n + 1) (by omega) (by omega) dL_law_730 ?_
  refine gd_aload_n hC dL_law_731 rfl (j := 0) rfl ?_
  refine gd_iload hC dL_law_732 (j := 4) rfl ?_
  refine gd_iconst hC dL_law_734 ?_
  refine gd_iadd hC dL_law_735 ?_
  refine gd_sld hC hX hbl rfl hL (j := 4 * n + 2) (by omega) (by omega) dL_law_736 ?_
  refine gd_callL (As := [.ref (a 0), zz_v ((xs (4 * n + 1)).toInt), zz_v ((xs (4 * n + 2)).toInt)]) (rest := []) hC hF (c_L_plea l hl9 _ G Y a S ((xs (4 * n + 1)).toInt) ((xs (4 * n + 2)).toInt) (zz_rng _) (zz_rng _) hI) (vx_cwSW 3 hts gL_law_L_plea rfl rfl rfl (by decide +kernel) ⟨by decide, by decide⟩) rfl rfl (Nat.le_of_ble_eq_true rfl) dL_law_737 (zg_room hn (by decide)) (fun r S1 hr1 hw => ?_)
  obtain ⟨hIM, S2, z0, z1, z2, hth, hzr⟩ := pl_plea h hn ((xs (4 * n + 1)).toInt) ((xs (4 * n + 2)).toInt) (zz_rng _) (zz_rng _) hw
  refine gd_istore hC dL_law_740 (by decide) (lv' := [(5, zz_v r), (0, .ref b), (1, .ref (a 0)), (2, .ref (a 77)), (3, .ref (a 99)), (4, zz_v ((4 * n : Nat) : Int))]) rfl ?_
  refine gd_aload_n hC dL_law_742 rfl (j := 3) rfl ?_
  refine gd_aload_n hC dL_law_743 rfl (j := 1) rfl ?_
  refine gd_iload hC dL_law_744 (j := 5) rfl ?_
  refine gd_iconst hC dL_law_746 ?_
  refine gd_iadd hC dL_law_747 ?_
  refine gd_sld hC hX hbl rfl hL (j := 4 * n + 1) (by omega) (by omega) dL_law_748 ?_
  refine gd_aload_n hC dL_law_749 rfl (j := 1) rfl ?_
  refine gd_iload hC dL_law_750 (j := 5) rfl ?_
  refine gd_iconst hC dL_law_752 ?_
  refine gd_iadd hC dL_law_753 ?_
  refine gd_sld hC hX hbl rfl hL (j := 4 * n + 2) (by omega) (by omega) dL_law_754 ?_
  refine gd_callVN (As := [zz_v ((xs (4 * n + 1)).toInt), zz_v ((xs (4 * n + 2)).toInt)]) (rest := []) hC hF (fun hR => c_X4_plea l hl9 _ G Y a S1 ((xs (4 * n + 1)).toInt) ((xs (4 * n + 2)).toInt) (zz_rng _) (zz_rng _) hIM S2 z0 z1 z2) (cwV 2 hts gL_law_X4_plea rfl rfl rfl (by decide +kernel) ⟨by decide, by decide⟩) rfl (by decide) (ci := 4) rfl rfl rfl rfl (Nat.le_of_ble_eq_true rfl) dL_law_755 (zg_room hn (by decide)) (fun E hx => zz_xn hx) (fun q => ?_)
  refine gd_aload_n hC dL_law_758 rfl (j := 3) rfl ?_
  refine gd_callVR (As := []) (rest := []) hC hF (fun hR => c_X4_thrown l hl9 _ G Y a S2) (cwV 0 hts gL_law_X4_thrown rfl rfl rfl (by decide +kernel) ⟨by decide, by decide⟩) rfl (by decide) (ci := 4) rfl rfl rfl rfl (Nat.le_of_ble_eq_true rfl) dL_law_759 (zg_room hn (by decide)) (fun E hx => zz_xn hx) (fun _ _ => ?_)
  refine gd_top (y := r) hth ?_
  refine gd_iload hC dL_law_762 (j := 0) rfl ?_
  refine gd_icmp_eq hC dL_law_764 (tgt := 769) (by decide) hr1 hr1 (fun c1 => ?_) (fun c1 => absurd rfl c1)
  refine gd_goto hC dL_law_769 (tgt := 1596) (by decide) ?_
  exact gd_wide (by omega) (gd_sub [1, 2, 3, 4, 5] rfl (kk S2 hzr))

set_option maxHeartbeats 4000000 in
set_option maxRecDepth 100000 in
theorem lk_bar {p : Program} {e : Env} {s : State} {m : MethodId} {below : List Frame} {meth : Method} {c : Code} {b L : Nat} {xs : Nat → Int32} {G : zz_G} {Y : zz_Y} {a : Nat → Nat} (l : Launch) (hl9 : l.stackTraces = false) (Hq : zq_ p s m meth c b L xs G Y) {S : zz_S} {n : Nat} (h : zr_ S n) (hnL : 4 * n + 4 ≤ L) (kk : ∀ S2 : zz_S, zr_ S2 (n + 1) → zg_ p l e s m b below meth c G a (20000 + 4 * (n + 1)) S2 1596 (zv_ b a n) []) : zg_ p l e s m b below meth c G a (20000 + 4 * n) S 772 (zv_ b a n) [] := by
  obtain ⟨hC, hts, hX, hbl, hL, hF, hr, hlk⟩ := Hq
  have hK := hF.2.1
  have hn : n < 512 := by omega
  have hI := zr_IC (by omega) h
  refine gd_lveq (lv' := [(0, .ref b), (1, .ref (a 0)), (2, .ref (a 77)), (3, .ref (a 99)), (4, zz_v ((4 * n : Nat) : Int))]) rfl ?_
  refine gd_aload_n hC dL_law_772 rfl (j := 1) rfl ?_
  refine gd_aload_n hC dL_law_773 rfl (j := 0) rfl ?_
  refine gd_iload hC dL_law_774 (j := 4) rfl ?_
  refine gd_iconst hC dL_law_776 ?_
  refine gd_iadd hC dL_law_777 ?_
  refine gd_sld hC hX hbl rfl hL (j := 4 * n + 1) (by omega) (by omega) dL_law_778 ?_
  refine gd_aload_n hC dL_law_779 rfl (j := 0) rfl ?_
  refine gd_iload hC dL_law_780 (j := 4) rfl ?_
  refine gd_iconst hC dL_law_782 ?_
  refine gd_iadd hC dL_law_783 ?_
  refine gd_sld hC hX hbl rfl hL (j := 4 * n + 2) (by omega) (by omega) dL_law_784 ?_
  refine gd_aload_n hC dL_law_785 rfl (j := 3) rfl ?_
  refine gd_callL (As := [.ref (a 0), zz_v ((xs (4 * n + 1)).toInt), zz_v ((xs (4 * n + 2)).toInt), .ref (a 99)]) (rest := []) hC hF (c_L_bar l hl9 _ G Y a S ((xs (4 * n + 1)).toInt) ((xs (4 * n + 2)).toInt) (zz_rng _) (zz_rng _) hI) (vx_cwSW 4 hts gL_law_L_bar rfl rfl rfl (by decide +kernel) ⟨by decide, by decide⟩) rfl rfl (Nat.le_of_ble_eq_true rfl) dL_law_786 (zg_room hn (by decide)) (fun r S1 hr1 hw => ?_)
  obtain ⟨hIM, e1, S2, z0, z1, hth, hou, hzr⟩ := pl_bar h hn ((xs (4 * n + 1)).toInt) ((xs (4 * n + 2)).toInt) (zz_rng _) (zz_rng _) hw
  refine gd_istore hC dL_law_789 (by decide) (lv' := [(5, zz_v r), (0, .ref b), (1, .ref (a 0)), (2, .ref (a 77)), (3, .ref (a 99)), (4, zz_v ((4 * n : Nat) : Int))]) rfl ?_
  refine gd_aload_n hC dL_law_791 rfl (j := 3) rfl ?_
  refine gd_aload_n hC dL_law_792 rfl (j := 1) rfl ?_
  refine gd_iload hC dL_law_793 (j := 5) rfl ?_
  refine gd_iconst hC dL_law_795 ?_
  refine gd_iadd hC dL_law_796 ?_
  refine gd_sld hC hX hbl rfl hL (j := 4 * n + 1) (by omega) (by omega) dL_law_797 ?_
  refine gd_aload_n hC dL_law_798 rfl (j := 1) rfl ?_
  refine gd_iload hC dL_law_799 (j := 5) rfl ?_
  refine gd_iconst hC dL_law_801 ?_
  refine gd_iadd hC dL_law_802 ?_
  refine gd_sld hC hX hbl rfl hL (j := 4 * n + 2) (by omega) (by omega) dL_law_803 ?_
  refine gd_callVR (As := [zz_v ((xs (4 * n + 1)).toInt), zz_v ((xs (4 * n + 2)).toInt)]) (rest := []) hC hF (fun hR => c_X4_bar l hl9 _ G Y a S1 ((xs (4 * n + 1)).toInt) ((xs (4 * n + 2)).toInt) (zz_rng _) (zz_rng _) hIM e1 S2 z0 z1) (cwV 2 hts gL_law_X4_bar rfl rfl rfl (by decide +kernel) ⟨by decide, by decide⟩) rfl (by decide) (ci := 4) rfl rfl rfl rfl (Nat.le_of_ble_eq_true rfl) dL_law_804 (zg_room hn (by decide)) (fun E hx => zz_xn hx) (fun q qr => ?_)
  refine gd_istore hC dL_law_807 (by decide) (lv' := [(6, zz_v e1), (5, zz_v r), (0, .ref b), (1, .ref (a 0)), (2, .ref (a 77)), (3, .ref (a 99)), (4, zz_v ((4 * n : Nat) : Int))]) rfl ?_
  refine gd_aload_n hC dL_law_809 rfl (j := 4) rfl ?_
  refine gd_callVR (As := []) (rest := []) hC hF (fun hR => c_X4_thrown l hl9 _ G Y a S2) (cwV 0 hts gL_law_X4_thrown rfl rfl rfl (by decide +kernel) ⟨by decide, by decide⟩) rfl (by decide) (ci := 4) rfl rfl rfl rfl (Nat.le_of_ble_eq_true rfl) dL_law_810 (zg_room hn (by decide)) (fun E hx => zz_xn hx) (fun _ _ => ?_)
  refine gd_top (y := r) hth ?_
  refine gd_iload hC dL_law_813 (j := 1) rfl ?_
  refine gd_icmp_eq hC dL_law_815 (tgt := 820) (by decide) hr1 hr1 (fun c1 => ?_) (fun c1 => absurd rfl c1)
  refine gd_iload hC dL_law_820 (j := 1) rfl ?_
  refine gd_if_ne hC dL_law_822 (tgt := 837) (by decide) hr1 (fun c2 => ?_) (fun c2 => ?_)
  · skip
    refine gd_goto hC dL_law_837 (tgt := 1596) (by decide) ?_
    exact gd_wide (by omega) (gd_sub [2, 3, 4, 5, 6] rfl (kk S2 hzr))
  · skip
    refine gd_aload_n hC dL_law_825 rfl (j := 5) rfl ?_
    refine gd_iconst hC dL_law_826 ?_
    refine gd_lald hC hK (j := 0) rfl (by decide) rfl (by decide) (by decide) dL_law_827 (fun rl => ?_)
    refine gd_topl (y := e1) (hou c2) ?_
    refine gd_iload hC dL_law_828 (j := 0) rfl ?_
    refine gd_i2l hC qr dL_law_830 ?_
    refine gd_lcmp hC qr qr dL_law_831 ?_
    refine gd_top (y := 0) (zz_cmp0 _) ?_
    refine gd_if_eq hC dL_law_832 (tgt := 837) (by decide) zz_r0 (fun c3 => ?_) (fun c3 => absurd rfl c3)
    refine gd_goto hC dL_law_837 (tgt := 1596) (by decide) ?_
    exact gd_wide (by omega) (gd_sub [2, 3, 4, 5, 6] rfl (kk S2 hzr))

set_option maxHeartbeats 4000000 in
set_option maxRecDepth 100000 in
theorem lk_complain {p : Program} {e : Env} {s : State} {m : MethodId} {below : List Frame} {meth : Method} {c : Code} {b L : Nat} {xs : Nat → Int32} {G : zz_G} {Y : zz_Y} {a : Nat → Nat} (l : Launch) (hl9 : l.stackTraces = false) (Hq : zq_ p s m meth c b L xs G Y) {S : zz_S} {n : Nat} (h : zr_ S n) (hnL : 4 * n + 4 ≤ L) (kk : ∀ S2 : zz_S, zr_ S2 (n + 1) → zg_ p l e s m b below meth c G a (20000 + 4 * (n + 1)) S2 1596 (zv_ b a n) []) : zg_ p l e s m b below meth c G a (20000 + 4 * n) S 840 (zv_ b a n) [] := by
  obtain ⟨hC, hts, hX, hbl, hL, hF, hr, hlk⟩ := Hq
  have hK := hF.2.1
  have hn : n < 512 := by omega
  have hI := zr_IC (by omega) h
  refine gd_lveq (lv' := [(0, .ref b), (1, .ref (a 0)), (2, .ref (a 77)), (3, .ref (a 99)), (4, zz_v ((4 * n : Nat) : Int))]) rfl ?_
  refine gd_aload_n hC dL_law_840 rfl (j := 1) rfl ?_
  refine gd_aload_n hC dL_law_841 rfl (j := 0) rfl ?_
  refine gd_iload hC dL_law_842 (j := 4) rfl ?_
  refine gd_iconst hC dL_law_844 ?_
  refine gd_iadd hC dL_law_845 ?_
  refine gd_sld hC hX hbl rfl hL (j := 4 * n + 1) (by omega) (by omega) dL_law_846 ?_
  refine gd_aload_n hC dL_law_847 rfl (j := 0) rfl ?_
  refine gd_iload hC dL_law_848 (j := 4) rfl ?_
  refine gd_iconst hC dL_law_850 ?_
  refine gd_iadd hC dL_law_851 ?_
  refine gd_sld hC hX hbl rfl hL (j := 4 * n + 2) (by omega) (by omega) dL_law_852 ?_
  refine gd_aload_n hC dL_law_853 rfl (j := 3) rfl ?_
  refine gd_callL (As := [.ref (a 0), zz_v ((xs (4 * n + 1)).toInt), zz_v ((xs (4 * n + 2)).toInt), .ref (a 99)]) (rest := []) hC hF (c_L_complain l hl9 _ G Y a S ((xs (4 * n + 1)).toInt) ((xs (4 * n + 2)).toInt) (zz_rng _) (zz_rng _) hI) (vx_cwSW 4 hts gL_law_L_complain rfl rfl rfl (by decide +kernel) ⟨by decide, by decide⟩) rfl rfl (Nat.le_of_ble_eq_true rfl) dL_law_854 (zg_room hn (by decide)) (fun r S1 hr1 hw => ?_)
  obtain ⟨hIM, e1, S2, z0, z1, z2, z3, hth, hou, hzr⟩ := pl_complain h hn ((xs (4 * n + 1)).toInt) ((xs (4 * n + 2)).toInt) (zz_rng _) (zz_rng _) hw
  refine gd_istore hC dL_law_857 (by decide) (lv' := [(5, zz_v r), (0, .ref b), (1, .ref (a 0)), (2, .ref (a 77)), (3, .ref (a 99)), (4, zz_v ((4 * n : Nat) : Int))]) rfl ?_
  refine gd_aload_n hC dL_law_859 rfl (j := 3) rfl ?_
  refine gd_aload_n hC dL_law_860 rfl (j := 1) rfl ?_
  refine gd_iload hC dL_law_861 (j := 5) rfl ?_
  refine gd_iconst hC dL_law_863 ?_
  refine gd_iadd hC dL_law_864 ?_
  refine gd_sld hC hX hbl rfl hL (j := 4 * n + 1) (by omega) (by omega) dL_law_865 ?_
  refine gd_aload_n hC dL_law_866 rfl (j := 1) rfl ?_
  refine gd_iload hC dL_law_867 (j := 5) rfl ?_
  refine gd_iconst hC dL_law_869 ?_
  refine gd_iadd hC dL_law_870 ?_
  refine gd_sld hC hX hbl rfl hL (j := 4 * n + 2) (by omega) (by omega) dL_law_871 ?_
  refine gd_callVR (As := [zz_v ((xs (4 * n + 1)).toInt), zz_v ((xs (4 * n + 2)).toInt)]) (rest := []) hC hF (fun hR => c_X4_complain l hl9 _ G Y a S1 ((xs (4 * n + 1)).toInt) ((xs (4 * n + 2)).toInt) (zz_rng _) (zz_rng _) hIM e1 S2 z0 z1 z2 z3) (cwV 2 hts gL_law_X4_complain rfl rfl rfl (by decide +kernel) ⟨by decide, by decide⟩) rfl (by decide) (ci := 4) rfl rfl rfl rfl (Nat.le_of_ble_eq_true rfl) dL_law_872 (zg_room hn (by decide)) (fun E hx => zz_xn hx) (fun q qr => ?_)
  refine gd_istore hC dL_law_875 (by decide) (lv' := [(6, zz_v e1), (5, zz_v r), (0, .ref b), (1, .ref (a 0)), (2, .ref (a 77)), (3, .ref (a 99)), (4, zz_v ((4 * n : Nat) : Int))]) rfl ?_
  refine gd_aload_n hC dL_law_877 rfl (j := 4) rfl ?_
  refine gd_callVR (As := []) (rest := []) hC hF (fun hR => c_X4_thrown l hl9 _ G Y a S2) (cwV 0 hts gL_law_X4_thrown rfl rfl rfl (by decide +kernel) ⟨by decide, by decide⟩) rfl (by decide) (ci := 4) rfl rfl rfl rfl (Nat.le_of_ble_eq_true rfl) dL_law_878 (zg_room hn (by decide)) (fun E hx => zz_xn hx) (fun _ _ => ?_)
  refine gd_top (y := r) hth ?_
  refine gd_iload hC dL_law_881 (j := 1) rfl ?_
  refine gd_icmp_eq hC dL_law_883 (tgt := 888) (by decide) hr1 hr1 (fun c1 => ?_) (fun c1 => absurd rfl c1)
  refine gd_iload hC dL_law_888 (j := 1) rfl ?_
  refine gd_if_ne hC dL_law_890 (tgt := 905) (by decide) hr1 (fun c2 => ?_) (fun c2 => ?_)
  · skip
    refine gd_goto hC dL_law_905 (tgt := 1596) (by decide) ?_
    exact gd_wide (by omega) (gd_sub [2, 3, 4, 5, 6] rfl (kk S2 hzr))
  · skip
    refine gd_aload_n hC dL_law_893 rfl (j := 5) rfl ?_
    refine gd_iconst hC dL_law_894 ?_
    refine gd_lald hC hK (j := 0) rfl (by decide) rfl (by decide) (by decide) dL_law_895 (fun rl => ?_)
    refine gd_topl (y := e1) (hou c2) ?_
    refine gd_iload hC dL_law_896 (j := 0) rfl ?_
    refine gd_i2l hC qr dL_law_898 ?_
    refine gd_lcmp hC qr qr dL_law_899 ?_
    refine gd_top (y := 0) (zz_cmp0 _) ?_
    refine gd_if_eq hC dL_law_900 (tgt := 905) (by decide) zz_r0 (fun c3 => ?_) (fun c3 => absurd rfl c3)
    refine gd_goto hC dL_law_905 (tgt := 1596) (by decide) ?_
    exact gd_wide (by omega) (gd_sub [2, 3, 4, 5, 6] rfl (kk S2 hzr))

set_option maxHeartbeats 4000000 in
set_option maxRecDepth 100000 in
theorem lk_ask {p : Program} {e : Env} {s : State} {m : MethodId} {below : List Frame} {meth : Method} {c : Code} {b L : Nat} {xs : Nat → Int32} {G : zz_G} {Y : zz_Y} {a : Nat → Nat} (l : Launch) (hl9 : l.stackTraces = false) (Hq : zq_ p s m meth c b L xs G Y) {S : zz_S} {n : Nat} (h : zr_ S n) (hnL : 4 * n + 4 ≤ L) (kk : ∀ S2 : zz_S, zr_ S2 (n + 1) → zg_ p l e s m b below meth c G a (20000 + 4 * (n + 1)) S2 1596 (zv_ b a n) []) : zg_ p l e s m b below meth c G a (20000 + 4 * n) S 908 (zv_ b a n) [] := by
  obtain ⟨hC, hts, hX, hbl, hL, hF, hr, hlk⟩ := Hq
  have hK := hF.2.1
  have hn : n < 512 := by omega
  have hI := zr_IC (by omega) h
  refine gd_lveq (lv' := [(0, .ref b), (1, .ref (a 0)), (2, .ref (a 77)), (3, .ref (a 99)), (4, zz_v ((4 * n : Nat) : Int))]) rfl ?_
  refine gd_aload_n hC dL_law_908 rfl (j := 1) rfl ?_
  refine gd_aload_n hC dL_law_909 rfl (j := 0) rfl ?_
  refine gd_iload hC dL_law_910 (j := 4) rfl ?_
  refine gd_iconst hC dL_law_912 ?_
  refine gd_iadd hC dL_law_913 ?_
  refine gd_sld hC hX hbl rfl hL (j := 4 * n + 1) (by omega) (by omega) dL_law_914 ?_
  refine gd_aload_n hC dL_law_915 rfl (j := 3) rfl ?_
  refine gd_callL (As := [.ref (a 0), zz_v ((xs (4 * n + 1)).toInt), .ref (a 99)]) (rest := []) hC hF (c_L_ask l hl9 _ G Y a S ((xs (4 * n + 1)).toInt) (zz_rng _) hI) (vx_cwSW 3 hts gL_law_L_ask rfl rfl rfl (by decide +kernel) ⟨by decide, by decide⟩) rfl rfl (Nat.le_of_ble_eq_true rfl) dL_law_916 (zg_room hn (by decide)) (fun r S1 hr1 hw => ?_)
  obtain ⟨hIM, e1, S2, z0, z1, z2, hth, hou, hzr⟩ := pl_ask h hn ((xs (4 * n + 1)).toInt) (zz_rng _) hw
  refine gd_istore hC dL_law_919 (by decide) (lv' := [(5, zz_v r), (0, .ref b), (1, .ref (a 0)), (2, .ref (a 77)), (3, .ref (a 99)), (4, zz_v ((4 * n : Nat) : Int))]) rfl ?_
  refine gd_aload_n hC dL_law_921 rfl (j := 3) rfl ?_
  refine gd_aload_n hC dL_law_922 rfl (j := 1) rfl ?_
  refine gd_iload hC dL_law_923 (j := 5) rfl ?_
  refine gd_iconst hC dL_law_925 ?_
  refine gd_iadd hC dL_law_926 ?_
  refine gd_sld hC hX hbl rfl hL (j := 4 * n + 1) (by omega) (by omega) dL_law_927 ?_
  refine gd_callVR (As := [zz_v ((xs (4 * n + 1)).toInt)]) (rest := []) hC hF (fun hR => c_X4_ask l hl9 _ G Y a S1 ((xs (4 * n + 1)).toInt) (zz_rng _) hIM e1 S2 z0 z1 z2) (cwV 1 hts gL_law_X4_ask rfl rfl rfl (by decide +kernel) ⟨by decide, by decide⟩) rfl (by decide) (ci := 4) rfl rfl rfl rfl (Nat.le_of_ble_eq_true rfl) dL_law_928 (zg_room hn (by decide)) (fun E hx => zz_xn hx) (fun q qr => ?_)
  refine gd_istore hC dL_law_931 (by decide) (lv' := [(6, zz_v e1), (5, zz_v r), (0, .ref b), (1, .ref (a 0)), (2, .ref (a 77)), (3, .ref (a 99)), (4, zz_v ((4 * n : Nat) : Int))]) rfl ?_
  refine gd_aload_n hC dL_law_933 rfl (j := 4) rfl ?_
  refine gd_callVR (As := []) (rest := []) hC hF (fun hR => c_X4_thrown l hl9 _ G Y a S2) (cwV 0 hts gL_law_X4_thrown rfl rfl rfl (by decide +kernel) ⟨by decide, by decide⟩) rfl (by decide) (ci := 4) rfl rfl rfl rfl (Nat.le_of_ble_eq_true rfl) dL_law_934 (zg_room hn (by decide)) (fun E hx => zz_xn hx) (fun _ _ => ?_)
  refine gd_top (y := r) hth ?_
  refine gd_iload hC dL_law_937 (j := 1) rfl ?_
  refine gd_icmp_eq hC dL_law_939 (tgt := 944) (by decide) hr1 hr1 (fun c1 => ?_) (fun c1 => absurd rfl c1)
  refine gd_iload hC dL_law_944 (j := 1) rfl ?_
  refine gd_if_ne hC dL_law_946 (tgt := 961) (by decide) hr1 (fun c2 => ?_) (fun c2 => ?_)
  · skip
    refine gd_goto hC dL_law_961 (tgt := 1596) (by decide) ?_
    exact gd_wide (by omega) (gd_sub [2, 3, 4, 5, 6] rfl (kk S2 hzr))
  · skip
    refine gd_aload_n hC dL_law_949 rfl (j := 5) rfl ?_
    refine gd_iconst hC dL_law_950 ?_
    refine gd_lald hC hK (j := 0) rfl (by decide) rfl (by decide) (by decide) dL_law_951 (fun rl => ?_)
    refine gd_topl (y := e1) (hou c2) ?_
    refine gd_iload hC dL_law_952 (j := 0) rfl ?_
    refine gd_i2l hC qr dL_law_954 ?_
    refine gd_lcmp hC qr qr dL_law_955 ?_
    refine gd_top (y := 0) (zz_cmp0 _) ?_
    refine gd_if_eq hC dL_law_956 (tgt := 961) (by decide) zz_r0 (fun c3 => ?_) (fun c3 => absurd rfl c3)
    refine gd_goto hC dL_law_961 (tgt := 1596) (by decide) ?_
    exact gd_wide (by omega) (gd_sub [2, 3, 4, 5, 6] rfl (kk S2 hzr))
