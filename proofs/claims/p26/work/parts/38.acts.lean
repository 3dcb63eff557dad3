abbrev rm_L_acts : Room := { frames := 12, cells := 120, slots := 720, locals := 253 }
set_option maxHeartbeats 4000000 in
set_option maxRecDepth 100000 in
theorem c_L_acts (l : Launch) (hl9 : l.stackTraces = false) (N0 : Nat) (G : zz_G) (Y : zz_Y) (a : Nat → Nat) (nA : List Nat) (T V : zz_S) (n : Nat) (x z : Int) (hx : zz_R x) (hz : zz_R z) (hnA : 0 < nA.length) (hn : n + 2 ≤ 512) (hI : zi_ T n) (hV : zi_V T V) : Cy_ l yL_acts wsL_acts rm_L_acts 120 [.ref (a 0), .ref (a 77), .ref (nA.getD 0 0), zz_v x, zz_v z] N0 G Y a nA (T, T, V) (zl_post (n + 2)) := by
  refine Cy_.of (cc := cL_acts) (maxL := 11) (ret := (some .boolean)) (by decide) rfl (Nat.le_of_ble_eq_true rfl) ?_
  intro p e s m args below meth c hC hts hr hlk hF
  have hK := hF.2.1
  have k17 : (Cond.constant RL 17 (Int32.ofInt (-2000000001))).before args s = true := hts _ (by decide +kernel)
  have k20 : (Cond.constant RL 20 (Int32.ofInt (-2000000002))).before args s = true := hts _ (by decide +kernel)
  have k23 : (Cond.constant RL 23 (Int32.ofInt (-2000000003))).before args s = true := hts _ (by decide +kernel)
  have hIC : zz_IC T := zi_IC (by omega) hI
  obtain ⟨hA, hB, hCC, hD, hE, hFF, hG, hH⟩ := id hI
  have hd0 := hB.1
  have hd1 := hFF.1
  have hd2 := hH.1
  have hd3 : 0 ≤ T 0 10 ∧ T 0 10 ≤ 5000 := hCC
  have hdc := hD.1
  have hlc := hE.1
  obtain ⟨hV0, hV1, hV2, hV3⟩ := id hV
  refine ge_lveq (lv' := [(0, .ref (a 0)), (1, .ref (a 77)), (2, .ref (nA.getD 0 0)), (3, zz_v x), (4, zz_v z)]) rfl ?_
  refine ge_iload_n hC dL_acts_0 rfl (j := 3) rfl ?_
  refine ge_bipush hC dL_acts_1 rfl ?_
  refine ge_some (x := x) (n := 8) (rest := []) hC hF ⟨by omega, by omega⟩ (va_cwS 2 hts gL_acts_L_some rfl rfl rfl (by decide +kernel) ⟨by decide, by decide⟩) rfl (Nat.le_of_ble_eq_true rfl) dL_acts_3 ⟨Nat.le_of_ble_eq_true rfl, Nat.le_of_ble_eq_true rfl⟩ (fun s1 s1a s1b => ?_)
  refine ge_istore hC dL_acts_6 (by decide) (lv' := [(5, zz_v s1), (0, .ref (a 0)), (1, .ref (a 77)), (2, .ref (nA.getD 0 0)), (3, zz_v x), (4, zz_v z)]) rfl ?_
  refine ge_iload hC dL_acts_8 (j := 0) rfl ?_
  refine ge_iconst hC dL_acts_10 ?_
  refine ge_icmp_ge hC dL_acts_11 (tgt := 203) (by decide) ⟨by omega, by omega⟩ ⟨by decide, by decide⟩ (fun c2 => ?_) (fun c2 => ?_)
  · skip
    refine ge_aload_n hC dL_acts_203 rfl (j := 3) rfl ?_
    refine ge_iconst hC dL_acts_204 ?_
    refine ge_iald hC hK (q := 0) (j := 1) hnA rfl rfl (by decide) dL_acts_205 (fun _ => ?_)
    refine ge_top (y := T 0 7) hV.2.1 ?_
    refine ge_if_ne hC dL_acts_206 (tgt := 243) (by decide) ⟨by omega, by omega⟩ (fun c3 => ?_) (fun c3 => ?_)
    · skip
      refine ge_iload hC dL_acts_243 (j := 5) rfl ?_
      refine ge_aload_n hC dL_acts_245 rfl (j := 3) rfl ?_
      refine ge_iconst hC dL_acts_246 ?_
      refine ge_iald hC hK (q := 0) (j := 1) hnA rfl rfl (by decide) dL_acts_247 (fun _ => ?_)
      refine ge_top (y := T 0 7) hV.2.1 ?_
      refine ge_some (x := z) (n := T 0 7) (rest := []) hC hF ⟨by omega, by omega⟩ (va_cwS 2 hts gL_acts_L_some rfl rfl rfl (by decide +kernel) ⟨by decide, by decide⟩) rfl (Nat.le_of_ble_eq_true rfl) dL_acts_248 ⟨Nat.le_of_ble_eq_true rfl, Nat.le_of_ble_eq_true rfl⟩ (fun s4 s4a s4b => ?_)
      refine ge_istore hC dL_acts_251 (by decide) (lv' := [(6, zz_v s4), (5, zz_v s1), (0, .ref (a 0)), (1, .ref (a 77)), (2, .ref (nA.getD 0 0)), (3, zz_v x), (4, zz_v z)]) rfl ?_
      refine ge_iload hC dL_acts_253 (j := 6) rfl ?_
      refine ge_iconst hC dL_acts_255 ?_
      refine ge_ishrX hC dL_acts_256 (fun z5 z5r => ?_)
      obtain ⟨z5a, z5b⟩ := id z5r
      refine ge_iconst hC dL_acts_257 ?_
      refine ge_some (x := z5) (n := 3) (rest := []) hC hF ⟨by omega, by omega⟩ (va_cwS 2 hts gL_acts_L_some rfl rfl rfl (by decide +kernel) ⟨by decide, by decide⟩) rfl (Nat.le_of_ble_eq_true rfl) dL_acts_258 ⟨Nat.le_of_ble_eq_true rfl, Nat.le_of_ble_eq_true rfl⟩ (fun s6 s6a s6b => ?_)
      refine ge_if_ne hC dL_acts_261 (tgt := 268) (by decide) ⟨by omega, by omega⟩ (fun c7 => ?_) (fun c7 => ?_)
      · skip
        refine ge_iconst hC dL_acts_268 ?_
        refine ge_istore hC dL_acts_269 (by decide) (lv' := [(7, zz_v 0), (6, zz_v s4), (5, zz_v s1), (0, .ref (a 0)), (1, .ref (a 77)), (2, .ref (nA.getD 0 0)), (3, zz_v x), (4, zz_v z)]) rfl ?_
        refine ge_aload_n hC dL_acts_271 rfl (j := 3) rfl ?_
        refine ge_aload_n hC dL_acts_272 rfl (j := 4) rfl ?_
        refine ge_iload hC dL_acts_273 (j := 2) rfl ?_
        refine ge_bipush hC dL_acts_275 rfl ?_
        refine ge_icmp_ge hC dL_acts_277 (tgt := 285) (by decide) ⟨by omega, by omega⟩ ⟨by decide, by decide⟩ (fun c8 => ?_) (fun c8 => ?_)
        · skip
          refine ge_bipush hC dL_acts_285 rfl ?_
          refine ge_iload hC dL_acts_287 (j := 1) rfl ?_
          refine ge_iload hC dL_acts_289 (j := 0) rfl ?_
          refine ge_iconst hC dL_acts_291 ?_
          refine ge_both (what := 7) (x := s4) (y := 0) (w := 0) (rest := []) hl9 hC hF (fun G' a' => (c_L_does_waive_0 l hl9 N0 G' Y a' T 0 s4 ⟨by omega, by omega⟩ hIC)) (by refine ⟨fun z9 => ⟨?_, ?_, ?_⟩, fun z9 => ⟨?_, ?_⟩, fun z9 => ?_⟩ <;> intro z8 <;> first | exact z8.elim | exact z9.elim | omega) (va_cwS 6 hts gL_acts_L_both rfl rfl rfl (by decide +kernel) ⟨by decide, by decide⟩) rfl (Nat.le_of_ble_eq_true rfl) dL_acts_292 ⟨Nat.le_of_ble_eq_true rfl, Nat.le_of_ble_eq_true rfl⟩ (fun r9 T10 r9r hw => ?_)
          rcases hw with ⟨r9e, hwF, hT⟩ | ⟨r9e, hwF, hT⟩ | ⟨r9e, hwF, hT⟩ | ⟨r9e, hwF, hT⟩
          · skip
            have hT1 : T10 = zz_u T (13 + s4.toNat) 6 0 := hT
            obtain ⟨k11, k12, k13⟩ := zk_cw (i := s4.toNat) (f := 6) (y := 0) hI (by omega) (by omega) ⟨by decide, by decide⟩
            rw [← hT1] at k11 k13
            have k10 : T10 0 = T 0 := by rw [hT1, zz_u_off _ _ (by omega)]
            have k1a : T10 0 3 = T 0 3 := by rw [k10]
            have k1b : T10 0 7 = T 0 7 := by rw [k10]
            have k1c : T10 0 9 = T 0 9 := by rw [k10]
            have k1d : T10 0 10 = T 0 10 := by rw [k10]
            have ICT10 : zz_IC T10 := zi_IC (by omega) k11
            have r9q : 0 ≤ r9 ∧ r9 ≤ 1 := by rw [r9e]; exact k12
            refine ge_istore hC dL_acts_295 (by decide) (lv' := [(8, zz_v r9), (7, zz_v 0), (6, zz_v s4), (5, zz_v s1), (0, .ref (a 0)), (1, .ref (a 77)), (2, .ref (nA.getD 0 0)), (3, zz_v x), (4, zz_v z)]) rfl ?_
            refine ge_iload hC dL_acts_297 (j := 0) rfl ?_
            refine ge_if_eq hC dL_acts_299 (tgt := 308) (by decide) r9r (fun c11 => ?_) (fun c11 => ?_)
            · skip
              refine ge_aload_n hC dL_acts_308 rfl (j := 4) rfl ?_
              refine ge_aload_n hC dL_acts_309 rfl (j := 5) rfl ?_
              refine ge_iload hC dL_acts_310 (j := 3) rfl ?_
              refine ge_bipush hC dL_acts_312 rfl ?_
              refine ge_icmp_ge hC dL_acts_314 (tgt := 322) (by decide) ⟨by omega, by omega⟩ ⟨by decide, by decide⟩ (fun c12 => ?_) (fun c12 => (by omega))
              refine ge_bipush hC dL_acts_322 rfl ?_
              refine ge_iload hC dL_acts_324 (j := 2) rfl ?_
              refine ge_iload hC dL_acts_326 (j := 1) rfl ?_
              refine ge_iconst hC dL_acts_328 ?_
              refine ge_both (what := 7) (x := s4) (y := 0) (w := 0) (rest := []) hl9 hC hF (fun G' a' => (c_L_does_waive_0 l hl9 N0 G' Y a' T10 0 s4 ⟨by omega, by omega⟩ ICT10)) (by refine ⟨fun z9 => ⟨?_, ?_, ?_⟩, fun z9 => ⟨?_, ?_⟩, fun z9 => ?_⟩ <;> intro z8 <;> first | exact z8.elim | exact z9.elim | omega) (va_cwS 6 hts gL_acts_L_both rfl rfl rfl (by decide +kernel) ⟨by decide, by decide⟩) rfl (Nat.le_of_ble_eq_true rfl) dL_acts_329 ⟨Nat.le_of_ble_eq_true rfl, Nat.le_of_ble_eq_true rfl⟩ (fun r13 T14 r13r hw => ?_)
              rcases hw with ⟨r13e, hwF, hT⟩ | ⟨r13e, hwF, hT⟩ | ⟨r13e, hwF, hT⟩ | ⟨r13e, hwF, hT⟩
              · skip
                have hT2 : T14 = zz_u T10 (13 + s4.toNat) 6 0 := hT
                obtain ⟨k21, k22, k23⟩ := zk_cw (i := s4.toNat) (f := 6) (y := 0) k11 (by omega) (by omega) ⟨by decide, by decide⟩
                rw [← hT2] at k21 k23
                have k20 : T14 0 = T10 0 := by rw [hT2, zz_u_off _ _ (by omega)]
                have k2a : T14 0 3 = T10 0 3 := by rw [k20]
                have k2b : T14 0 7 = T10 0 7 := by rw [k20]
                have k2c : T14 0 9 = T10 0 9 := by rw [k20]
                have k2d : T14 0 10 = T10 0 10 := by rw [k20]
                have ICT14 : zz_IC T14 := zi_IC (by omega) k21
                have r13q : r13 = 0 := by rw [r13e, hT1, zz_u_same]
                refine ge_iload hC dL_acts_332 (j := 1) rfl ?_
                refine ge_icmp_ne hC dL_acts_334 (tgt := 364) (by decide) r13r ⟨by decide, by decide⟩ (fun c15 => (by omega)) (fun c15 => ?_)
                refine ge_iload hC dL_acts_337 (j := 3) rfl ?_
                refine ge_iconst hC dL_acts_339 ?_
                refine ge_icmp_gt hC dL_acts_340 (tgt := 360) (by decide) ⟨by omega, by omega⟩ ⟨by decide, by decide⟩ (fun c16 => ?_) (fun c16 => (by omega))
                refine ge_iconst hC dL_acts_360 ?_
                refine ge_goto hC dL_acts_361 (tgt := 365) (by decide) ?_
                exact ge_ireturn hC hr rfl hlk dL_acts_365 (Nat.le_of_ble_eq_true rfl) ⟨rfl, T14, V, rfl, zi_wide (Nat.le_add_right _ _) k21, by unfold zi_V; first | omega | (refine ⟨?_, ?_, ?_, ?_⟩ <;> omega)⟩
              · exfalso; first | omega | exact hwF
              · exfalso; first | omega | exact hwF
              · exfalso; first | omega | exact hwF
            · skip
              refine ge_iload hC dL_acts_302 (j := 0) rfl ?_
              refine ge_iconst hC dL_acts_304 ?_
              refine ge_icmp_ne hC dL_acts_305 (tgt := 364) (by decide) r9r ⟨by decide, by decide⟩ (fun c17 => (by omega)) (fun c17 => ?_)
              refine ge_aload_n hC dL_acts_308 rfl (j := 4) rfl ?_
              refine ge_aload_n hC dL_acts_309 rfl (j := 5) rfl ?_
              refine ge_iload hC dL_acts_310 (j := 3) rfl ?_
              refine ge_bipush hC dL_acts_312 rfl ?_
              refine ge_icmp_ge hC dL_acts_314 (tgt := 322) (by decide) ⟨by omega, by omega⟩ ⟨by decide, by decide⟩ (fun c18 => ?_) (fun c18 => (by omega))
              refine ge_bipush hC dL_acts_322 rfl ?_
              refine ge_iload hC dL_acts_324 (j := 2) rfl ?_
              refine ge_iload hC dL_acts_326 (j := 1) rfl ?_
              refine ge_iconst hC dL_acts_328 ?_
              refine ge_both (what := 7) (x := s4) (y := 0) (w := 0) (rest := []) hl9 hC hF (fun G' a' => (c_L_does_waive_0 l hl9 N0 G' Y a' T10 0 s4 ⟨by omega, by omega⟩ ICT10)) (by refine ⟨fun z9 => ⟨?_, ?_, ?_⟩, fun z9 => ⟨?_, ?_⟩, fun z9 => ?_⟩ <;> intro z8 <;> first | exact z8.elim | exact z9.elim | omega) (va_cwS 6 hts gL_acts_L_both rfl rfl rfl (by decide +kernel) ⟨by decide, by decide⟩) rfl (Nat.le_of_ble_eq_true rfl) dL_acts_329 ⟨Nat.le_of_ble_eq_true rfl, Nat.le_of_ble_eq_true rfl⟩ (fun r19 T20 r19r hw => ?_)
              rcases hw with ⟨r19e, hwF, hT⟩ | ⟨r19e, hwF, hT⟩ | ⟨r19e, hwF, hT⟩ | ⟨r19e, hwF, hT⟩
              · skip
                have hT2 : T20 = zz_u T10 (13 + s4.toNat) 6 0 := hT
                obtain ⟨k21, k22, k23⟩ := zk_cw (i := s4.toNat) (f := 6) (y := 0) k11 (by omega) (by omega) ⟨by decide, by decide⟩
                rw [← hT2] at k21 k23
                have k20 : T20 0 = T10 0 := by rw [hT2, zz_u_off _ _ (by omega)]
                have k2a : T20 0 3 = T10 0 3 := by rw [k20]
                have k2b : T20 0 7 = T10 0 7 := by rw [k20]
                have k2c : T20 0 9 = T10 0 9 := by rw [k20]
                have k2d : T20 0 10 = T10 0 10 := by rw [k20]
                have ICT20 : zz_IC T20 := zi_IC (by omega) k21
                have r19q : r19 = 0 := by rw [r19e, hT1, zz_u_same]
                refine ge_iload hC dL_acts_332 (j := 1) rfl ?_
                refine ge_icmp_ne hC dL_acts_334 (tgt := 364) (by decide) r19r ⟨by decide, by decide⟩ (fun c21 => (by omega)) (fun c21 => ?_)
                refine ge_iload hC dL_acts_337 (j := 3) rfl ?_
                refine ge_iconst hC dL_acts_339 ?_
                refine ge_icmp_gt hC dL_acts_340 (tgt := 360) (by decide) ⟨by omega, by omega⟩ ⟨by decide, by decide⟩ (fun c22 => ?_) (fun c22 => (by omega))
                refine ge_iconst hC dL_acts_360 ?_
                refine ge_goto hC dL_acts_361 (tgt := 365) (by decide) ?_
                exact ge_ireturn hC hr rfl hlk dL_acts_365 (Nat.le_of_ble_eq_true rfl) ⟨rfl, T20, V, rfl, zi_wide (Nat.le_add_right _ _) k21, by unfold zi_V; first | omega | (refine ⟨?_, ?_, ?_, ?_⟩ <;> omega)⟩
              · exfalso; first | omega | exact hwF
              · exfalso; first | omega | exact hwF
              · exfalso; first | omega | exact hwF
          · exfalso; first | omega | exact hwF
          · exfalso; first | omega | exact hwF
          · exfalso; first | omega | exact hwF
        · skip
          refine ge_bipush hC dL_acts_280 rfl ?_
          refine ge_goto hC dL_acts_282 (tgt := 287) (by decide) ?_
          refine ge_iload hC dL_acts_287 (j := 1) rfl ?_
          refine ge_iload hC dL_acts_289 (j := 0) rfl ?_
          refine ge_iconst hC dL_acts_291 ?_
          refine ge_both (what := 6) (x := s4) (y := 0) (w := 0) (rest := []) hl9 hC hF (fun G' a' => (c_L_does_court_0 l hl9 N0 G' Y a' T 0 s4 ⟨by omega, by omega⟩ hIC)) (by refine ⟨fun z9 => ⟨?_, ?_, ?_⟩, fun z9 => ⟨?_, ?_⟩, fun z9 => ?_⟩ <;> intro z8 <;> first | exact z8.elim | exact z9.elim | omega) (va_cwS 6 hts gL_acts_L_both rfl rfl rfl (by decide +kernel) ⟨by decide, by decide⟩) rfl (Nat.le_of_ble_eq_true rfl) dL_acts_292 ⟨Nat.le_of_ble_eq_true rfl, Nat.le_of_ble_eq_true rfl⟩ (fun r23 T24 r23r hw => ?_)
          rcases hw with ⟨r23e, hwF, hT⟩ | ⟨r23e, hwF, hT⟩ | ⟨r23e, hwF, hT⟩ | ⟨r23e, hwF, hT⟩
          · skip
            have hT1 : T24 = zz_u T (13 + s4.toNat) 5 0 := hT
            obtain ⟨k11, k12, k13⟩ := zk_cw (i := s4.toNat) (f := 5) (y := 0) hI (by omega) (by omega) ⟨by decide, by decide⟩
            rw [← hT1] at k11 k13
            have k10 : T24 0 = T 0 := by rw [hT1, zz_u_off _ _ (by omega)]
            have k1a : T24 0 3 = T 0 3 := by rw [k10]
            have k1b : T24 0 7 = T 0 7 := by rw [k10]
            have k1c : T24 0 9 = T 0 9 := by rw [k10]
            have k1d : T24 0 10 = T 0 10 := by rw [k10]
            have ICT24 : zz_IC T24 := zi_IC (by omega) k11
            have r23q : 0 ≤ r23 ∧ r23 ≤ 1 := by rw [r23e]; exact k12
            refine ge_istore hC dL_acts_295 (by decide) (lv' := [(8, zz_v r23), (7, zz_v 0), (6, zz_v s4), (5, zz_v s1), (0, .ref (a 0)), (1, .ref (a 77)), (2, .ref (nA.getD 0 0)), (3, zz_v x), (4, zz_v z)]) rfl ?_
            refine ge_iload hC dL_acts_297 (j := 0) rfl ?_
            refine ge_if_eq hC dL_acts_299 (tgt := 308) (by decide) r23r (fun c25 => ?_) (fun c25 => ?_)
            · skip
              refine ge_aload_n hC dL_acts_308 rfl (j := 4) rfl ?_
              refine ge_aload_n hC dL_acts_309 rfl (j := 5) rfl ?_
              refine ge_iload hC dL_acts_310 (j := 3) rfl ?_
              refine ge_bipush hC dL_acts_312 rfl ?_
              refine ge_icmp_ge hC dL_acts_314 (tgt := 322) (by decide) ⟨by omega, by omega⟩ ⟨by decide, by decide⟩ (fun c26 => (by omega)) (fun c26 => ?_)
              refine ge_bipush hC dL_acts_317 rfl ?_
              refine ge_goto hC dL_acts_319 (tgt := 324) (by decide) ?_
              refine ge_iload hC dL_acts_324 (j := 2) rfl ?_
              refine ge_iload hC dL_acts_326 (j := 1) rfl ?_
              refine ge_iconst hC dL_acts_328 ?_
              refine ge_both (what := 6) (x := s4) (y := 0) (w := 0) (rest := []) hl9 hC hF (fun G' a' => (c_L_does_court_0 l hl9 N0 G' Y a' T24 0 s4 ⟨by omega, by omega⟩ ICT24)) (by refine ⟨fun z9 => ⟨?_, ?_, ?_⟩, fun z9 => ⟨?_, ?_⟩, fun z9 => ?_⟩ <;> intro z8 <;> first | exact z8.elim | exact z9.elim | omega) (va_cwS 6 hts gL_acts_L_both rfl rfl rfl (by decide +kernel) ⟨by decide, by decide⟩) rfl (Nat.le_of_ble_eq_true rfl) dL_acts_329 ⟨Nat.le_of_ble_eq_true rfl, Nat.le_of_ble_eq_true rfl⟩ (fun r27 T28 r27r hw => ?_)
              rcases hw with ⟨r27e, hwF, hT⟩ | ⟨r27e, hwF, hT⟩ | ⟨r27e, hwF, hT⟩ | ⟨r27e, hwF, hT⟩
              · skip
                have hT2 : T28 = zz_u T24 (13 + s4.toNat) 5 0 := hT
                obtain ⟨k21, k22, k23⟩ := zk_cw (i := s4.toNat) (f := 5) (y := 0) k11 (by omega) (by omega) ⟨by decide, by decide⟩
                rw [← hT2] at k21 k23
                have k20 : T28 0 = T24 0 := by rw [hT2, zz_u_off _ _ (by omega)]
                have k2a : T28 0 3 = T24 0 3 := by rw [k20]
                have k2b : T28 0 7 = T24 0 7 := by rw [k20]
                have k2c : T28 0 9 = T24 0 9 := by rw [k20]
                have k2d : T28 0 10 = T24 0 10 := by rw [k20]
                have ICT28 : zz_IC T28 := zi_IC (by omega) k21
                have r27q : r27 = 0 := by rw [r27e, hT1, zz_u_same]
                refine ge_iload hC dL_acts_332 (j := 1) rfl ?_
                refine ge_icmp_ne hC dL_acts_334 (tgt := 364) (by decide) r27r ⟨by decide, by decide⟩ (fun c29 => (by omega)) (fun c29 => ?_)
                refine ge_iload hC dL_acts_337 (j := 3) rfl ?_
                refine ge_iconst hC dL_acts_339 ?_
                refine ge_icmp_gt hC dL_acts_340 (tgt := 360) (by decide) ⟨by omega, by omega⟩ ⟨by decide, by decide⟩ (fun c30 => (by omega)) (fun c30 => ?_)
                refine ge_iload hC dL_acts_343 (j := 1) rfl ?_
                refine ge_if_eq hC dL_acts_345 (tgt := 360) (by decide) ⟨by decide, by decide⟩ (fun c31 => ?_) (fun c31 => (by omega))
                refine ge_iconst hC dL_acts_360 ?_
                refine ge_goto hC dL_acts_361 (tgt := 365) (by decide) ?_
                exact ge_ireturn hC hr rfl hlk dL_acts_365 (Nat.le_of_ble_eq_true rfl) ⟨rfl, T28, V, rfl, zi_wide (Nat.le_add_right _ _) k21, by unfold zi_V; first | omega | (refine ⟨?_, ?_, ?_, ?_⟩ <;> omega)⟩
              · exfalso; first | omega | exact hwF
              · exfalso; first | omega | exact hwF
              · exfalso; first | omega | exact hwF
            · skip
              refine ge_iload hC dL_acts_302 (j := 0) rfl ?_
              refine ge_iconst hC dL_acts_304 ?_
              refine ge_icmp_ne hC dL_acts_305 (tgt := 364) (by decide) r23r ⟨by decide, by decide⟩ (fun c32 => (by omega)) (fun c32 => ?_)
              refine ge_aload_n hC dL_acts_308 rfl (j := 4) rfl ?_
              refine ge_aload_n hC dL_acts_309 rfl (j := 5) rfl ?_
              refine ge_iload hC dL_acts_310 (j := 3) rfl ?_
              refine ge_bipush hC dL_acts_312 rfl ?_
              refine ge_icmp_ge hC dL_acts_314 (tgt := 322) (by decide) ⟨by omega, by omega⟩ ⟨by decide, by decide⟩ (fun c33 => (by omega)) (fun c33 => ?_)
              refine ge_bipush hC dL_acts_317 rfl ?_
              refine ge_goto hC dL_acts_319 (tgt := 324) (by decide) ?_
              refine ge_iload hC dL_acts_324 (j := 2) rfl ?_
              refine ge_iload hC dL_acts_326 (j := 1) rfl ?_
              refine ge_iconst hC dL_acts_328 ?_
              refine ge_both (what := 6) (x := s4) (y := 0) (w := 0) (rest := []) hl9 hC hF (fun G' a' => (c_L_does_court_0 l hl9 N0 G' Y a' T24 0 s4 ⟨by omega, by omega⟩ ICT24)) (by refine ⟨fun z9 => ⟨?_, ?_, ?_⟩, fun z9 => ⟨?_, ?_⟩, fun z9 => ?_⟩ <;> intro z8 <;> first | exact z8.elim | exact z9.elim | omega) (va_cwS 6 hts gL_acts_L_both rfl rfl rfl (by decide +kernel) ⟨by decide, by decide⟩) rfl (Nat.le_of_ble_eq_true rfl) dL_acts_329 ⟨Nat.le_of_ble_eq_true rfl, Nat.le_of_ble_eq_true rfl⟩ (fun r34 T35 r34r hw => ?_)
              rcases hw with ⟨r34e, hwF, hT⟩ | ⟨r34e, hwF, hT⟩ | ⟨r34e, hwF, hT⟩ | ⟨r34e, hwF, hT⟩
              · skip
                have hT2 : T35 = zz_u T24 (13 + s4.toNat) 5 0 := hT
                obtain ⟨k21, k22, k23⟩ := zk_cw (i := s4.toNat) (f := 5) (y := 0) k11 (by omega) (by omega) ⟨by decide, by decide⟩
                rw [← hT2] at k21 k23
                have k20 : T35 0 = T24 0 := by rw [hT2, zz_u_off _ _ (by omega)]
                have k2a : T35 0 3 = T24 0 3 := by rw [k20]
                have k2b : T35 0 7 = T24 0 7 := by rw [k20]
                have k2c : T35 0 9 = T24 0 9 := by rw [k20]
                have k2d : T35 0 10 = T24 0 10 := by rw [k20]
                have ICT35 : zz_IC T35 := zi_IC (by omega) k21
                have r34q : r34 = 0 := by rw [r34e, hT1, zz_u_same]
                refine ge_iload hC dL_acts_332 (j := 1) rfl ?_
                refine ge_icmp_ne hC dL_acts_334 (tgt := 364) (by decide) r34r ⟨by decide, by decide⟩ (fun c36 => (by omega)) (fun c36 => ?_)
                refine ge_iload hC dL_acts_337 (j := 3) rfl ?_
                refine ge_iconst hC dL_acts_339 ?_
                refine ge_icmp_gt hC dL_acts_340 (tgt := 360) (by decide) ⟨by omega, by omega⟩ ⟨by decide, by decide⟩ (fun c37 => (by omega)) (fun c37 => ?_)
                refine ge_iload hC dL_acts_343 (j := 1) rfl ?_
                refine ge_if_eq hC dL_acts_345 (tgt := 360) (by decide) ⟨by decide, by decide⟩ (fun c38 => ?_) (fun c38 => (by omega))
                refine ge_iconst hC dL_acts_360 ?_
                refine ge_goto hC dL_acts_361 (tgt := 365) (by decide) ?_
                exact ge_ireturn hC hr rfl hlk dL_acts_365 (Nat.le_of_ble_eq_true rfl) ⟨rfl, T35, V, rfl, zi_wide (Nat.le_add_right _ _) k21, by unfold zi_V; first | omega | (refine ⟨?_, ?_, ?_, ?_⟩ <;> omega)⟩
              · exfalso; first | omega | exact hwF
              · exfalso; first | omega | exact hwF
              · exfalso; first | omega | exact hwF
          · exfalso; first | omega | exact hwF
          · exfalso; first | omega | exact hwF
          · exfalso; first | omega | exact hwF
      · skip
        refine ge_iconst hC dL_acts_264 ?_
        refine ge_goto hC dL_acts_265 (tgt := 269) (by decide) ?_
        refine ge_istore hC dL_acts_269 (by decide) (lv' := [(7, zz_v 1), (6, zz_v s4), (5, zz_v s1), (0, .ref (a 0)), (1, .ref (a 77)), (2, .ref (nA.getD 0 0)), (3, zz_v x), (4, zz_v z)]) rfl ?_
        refine ge_aload_n hC dL_acts_271 rfl (j := 3) rfl ?_
        refine ge_aload_n hC dL_acts_272 rfl (j := 4) rfl ?_
        refine ge_iload hC dL_acts_273 (j := 2) rfl ?_
        refine ge_bipush hC dL_acts_275 rfl ?_
        refine ge_icmp_ge hC dL_acts_277 (tgt := 285) (by decide) ⟨by omega, by omega⟩ ⟨by decide, by decide⟩ (fun c39 => ?_) (fun c39 => ?_)
        · skip
          refine ge_bipush hC dL_acts_285 rfl ?_
          refine ge_iload hC dL_acts_287 (j := 1) rfl ?_
          refine ge_iload hC dL_acts_289 (j := 0) rfl ?_
          refine ge_iconst hC dL_acts_291 ?_
          refine ge_both (what := 7) (x := s4) (y := 1) (w := 0) (rest := []) hl9 hC hF (fun G' a' => (c_L_does_waive_1 l hl9 N0 G' Y a' T 0 s4 ⟨by omega, by omega⟩ hIC)) (by refine ⟨fun z9 => ⟨?_, ?_, ?_⟩, fun z9 => ⟨?_, ?_⟩, fun z9 => ?_⟩ <;> intro z8 <;> first | exact z8.elim | exact z9.elim | omega) (va_cwS 6 hts gL_acts_L_both rfl rfl rfl (by decide +kernel) ⟨by decide, by decide⟩) rfl (Nat.le_of_ble_eq_true rfl) dL_acts_292 ⟨Nat.le_of_ble_eq_true rfl, Nat.le_of_ble_eq_true rfl⟩ (fun r40 T41 r40r hw => ?_)
          rcases hw with ⟨r40e, hwF, hT⟩ | ⟨r40e, hwF, hT⟩ | ⟨r40e, hwF, hT⟩ | ⟨r40e, hwF, hT⟩
          · skip
            have hT1 : T41 = zz_u T (13 + s4.toNat) 6 1 := hT
            obtain ⟨k11, k12, k13⟩ := zk_cw (i := s4.toNat) (f := 6) (y := 1) hI (by omega) (by omega) ⟨by decide, by decide⟩
            rw [← hT1] at k11 k13
            have k10 : T41 0 = T 0 := by rw [hT1, zz_u_off _ _ (by omega)]
            have k1a : T41 0 3 = T 0 3 := by rw [k10]
            have k1b : T41 0 7 = T 0 7 := by rw [k10]
            have k1c : T41 0 9 = T 0 9 := by rw [k10]
            have k1d : T41 0 10 = T 0 10 := by rw [k10]
            have ICT41 : zz_IC T41 := zi_IC (by omega) k11
            have r40q : 0 ≤ r40 ∧ r40 ≤ 1 := by rw [r40e]; exact k12
            refine ge_istore hC dL_acts_295 (by decide) (lv' := [(8, zz_v r40), (7, zz_v 1), (6, zz_v s4), (5, zz_v s1), (0, .ref (a 0)), (1, .ref (a 77)), (2, .ref (nA.getD 0 0)), (3, zz_v x), (4, zz_v z)]) rfl ?_
            refine ge_iload hC dL_acts_297 (j := 0) rfl ?_
            refine ge_if_eq hC dL_acts_299 (tgt := 308) (by decide) r40r (fun c42 => ?_) (fun c42 => ?_)
            · skip
              refine ge_aload_n hC dL_acts_308 rfl (j := 4) rfl ?_
              refine ge_aload_n hC dL_acts_309 rfl (j := 5) rfl ?_
              refine ge_iload hC dL_acts_310 (j := 3) rfl ?_
              refine ge_bipush hC dL_acts_312 rfl ?_
              refine ge_icmp_ge hC dL_acts_314 (tgt := 322) (by decide) ⟨by omega, by omega⟩ ⟨by decide, by decide⟩ (fun c43 => ?_) (fun c43 => (by omega))
              refine ge_bipush hC dL_acts_322 rfl ?_
              refine ge_iload hC dL_acts_324 (j := 2) rfl ?_
              refine ge_iload hC dL_acts_326 (j := 1) rfl ?_
              refine ge_iconst hC dL_acts_328 ?_
              refine ge_both (what := 7) (x := s4) (y := 1) (w := 0) (rest := []) hl9 hC hF (fun G' a' => (c_L_does_waive_1 l hl9 N0 G' Y a' T41 0 s4 ⟨by omega, by omega⟩ ICT41)) (by refine ⟨fun z9 => ⟨?_, ?_, ?_⟩, fun z9 => ⟨?_, ?_⟩, fun z9 => ?_⟩ <;> intro z8 <;> first | exact z8.elim | exact z9.elim | omega) (va_cwS 6 hts gL_acts_L_both rfl rfl rfl (by decide +kernel) ⟨by decide, by decide⟩) rfl (Nat.le_of_ble_eq_true rfl) dL_acts_329 ⟨Nat.le_of_ble_eq_true rfl, Nat.le_of_ble_eq_true rfl⟩ (fun r44 T45 r44r hw => ?_)
              rcases hw with ⟨r44e, hwF, hT⟩ | ⟨r44e, hwF, hT⟩ | ⟨r44e, hwF, hT⟩ | ⟨r44e, hwF, hT⟩
              · skip
                have hT2 : T45 = zz_u T41 (13 + s4.toNat) 6 1 := hT
                obtain ⟨k21, k22, k23⟩ := zk_cw (i := s4.toNat) (f := 6) (y := 1) k11 (by omega) (by omega) ⟨by decide, by decide⟩
                rw [← hT2] at k21 k23
                have k20 : T45 0 = T41 0 := by rw [hT2, zz_u_off _ _ (by omega)]
                have k2a : T45 0 3 = T41 0 3 := by rw [k20]
                have k2b : T45 0 7 = T41 0 7 := by rw [k20]
                have k2c : T45 0 9 = T41 0 9 := by rw [k20]
                have k2d : T45 0 10 = T41 0 10 := by rw [k20]
                have ICT45 : zz_IC T45 := zi_IC (by omega) k21
                have r44q : r44 = 1 := by rw [r44e, hT1, zz_u_same]
                refine ge_iload hC dL_acts_332 (j := 1) rfl ?_
                refine ge_icmp_ne hC dL_acts_334 (tgt := 364) (by decide) r44r ⟨by decide, by decide⟩ (fun c46 => (by omega)) (fun c46 => ?_)
                refine ge_iload hC dL_acts_337 (j := 3) rfl ?_
                refine ge_iconst hC dL_acts_339 ?_
                refine ge_icmp_gt hC dL_acts_340 (tgt := 360) (by decide) ⟨by omega, by omega⟩ ⟨by decide, by decide⟩ (fun c47 => ?_) (fun c47 => (by omega))
                refine ge_iconst hC dL_acts_360 ?_
                refine ge_goto hC dL_acts_361 (tgt := 365) (by decide) ?_
                exact ge_ireturn hC hr rfl hlk dL_acts_365 (Nat.le_of_ble_eq_true rfl) ⟨rfl, T45, V, rfl, zi_wide (Nat.le_add_right _ _) k21, by unfold zi_V; first | omega | (refine ⟨?_, ?_, ?_, ?_⟩ <;> omega)⟩
              · exfalso; first | omega | exact hwF
              · exfalso; first | omega | exact hwF
              · exfalso; first | omega | exact hwF
            · skip
              refine ge_iload hC dL_acts_302 (j := 0) rfl ?_
              refine ge_iconst hC dL_acts_304 ?_
              refine ge_icmp_ne hC dL_acts_305 (tgt := 364) (by decide) r40r ⟨by decide, by decide⟩ (fun c48 => (by omega)) (fun c48 => ?_)
              refine ge_aload_n hC dL_acts_308 rfl (j := 4) rfl ?_
              refine ge_aload_n hC dL_acts_309 rfl (j := 5) rfl ?_
              refine ge_iload hC dL_acts_310 (j := 3) rfl ?_
              refine ge_bipush hC dL_acts_312 rfl ?_
              refine ge_icmp_ge hC dL_acts_314 (tgt := 322) (by decide) ⟨by omega, by omega⟩ ⟨by decide, by decide⟩ (fun c49 => ?_) (fun c49 => (by omega))
              refine ge_bipush hC dL_acts_322 rfl ?_
              refine ge_iload hC dL_acts_324 (j := 2) rfl ?_
              refine ge_iload hC dL_acts_326 (j := 1) rfl ?_
              refine ge_iconst hC dL_acts_328 ?_
              refine ge_both (what := 7) (x := s4) (y := 1) (w := 0) (rest := []) hl9 hC hF (fun G' a' => (c_L_does_waive_1 l hl9 N0 G' Y a' T41 0 s4 ⟨by omega, by omega⟩ ICT41)) (by refine ⟨fun z9 => ⟨?_, ?_, ?_⟩, fun z9 => ⟨?_, ?_⟩, fun z9 => ?_⟩ <;> intro z8 <;> first | exact z8.elim | exact z9.elim | omega) (va_cwS 6 hts gL_acts_L_both rfl rfl rfl (by decide +kernel) ⟨by decide, by decide⟩) rfl (Nat.le_of_ble_eq_true rfl) dL_acts_329 ⟨Nat.le_of_ble_eq_true rfl, Nat.le_of_ble_eq_true rfl⟩ (fun r50 T51 r50r hw => ?_)
              rcases hw with ⟨r50e, hwF, hT⟩ | ⟨r50e, hwF, hT⟩ | ⟨r50e, hwF, hT⟩ | ⟨r50e, hwF, hT⟩
              · skip
                have hT2 : T51 = zz_u T41 (13 + s4.toNat) 6 1 := hT
                obtain ⟨k21, k22, k23⟩ := zk_cw (i := s4.toNat) (f := 6) (y := 1) k11 (by omega) (by omega) ⟨by decide, by decide⟩
                rw [← hT2] at k21 k23
                have k20 : T51 0 = T41 0 := by rw [hT2, zz_u_off _ _ (by omega)]
                have k2a : T51 0 3 = T41 0 3 := by rw [k20]
                have k2b : T51 0 7 = T41 0 7 := by rw [k20]
                have k2c : T51 0 9 = T41 0 9 := by rw [k20]
                have k2d : T51 0 10 = T41 0 10 := by rw [k20]
                have ICT51 : zz_IC T51 := zi_IC (by omega) k21
                have r50q : r50 = 1 := by rw [r50e, hT1, zz_u_same]
                refine ge_iload hC dL_acts_332 (j := 1) rfl ?_
                refine ge_icmp_ne hC dL_acts_334 (tgt := 364) (by decide) r50r ⟨by decide, by decide⟩ (fun c52 => (by omega)) (fun c52 => ?_)
                refine ge_iload hC dL_acts_337 (j := 3) rfl ?_
                refine ge_iconst hC dL_acts_339 ?_
                refine ge_icmp_gt hC dL_acts_340 (tgt := 360) (by decide) ⟨by omega, by omega⟩ ⟨by decide, by decide⟩ (fun c53 => ?_) (fun c53 => (by omega))
                refine ge_iconst hC dL_acts_360 ?_
                refine ge_goto hC dL_acts_361 (tgt := 365) (by decide) ?_
                exact ge_ireturn hC hr rfl hlk dL_acts_365 (Nat.le_of_ble_eq_true rfl) ⟨rfl, T51, V, rfl, zi_wide (Nat.le_add_right _ _) k21, by unfold zi_V; first | omega | (refine ⟨?_, ?_, ?_, ?_⟩ <;> omega)⟩
              · exfalso; first | omega | exact hwF
              · exfalso; first | omega | exact hwF
              · exfalso; first | omega | exact hwF
          · exfalso; first | omega | exact hwF
          · exfalso; first | omega | exact hwF
          · exfalso; first | omega | exact hwF
        · skip
          refine ge_bipush hC dL_acts_280 rfl ?_
          refine ge_goto hC dL_acts_282 (tgt := 287) (by decide) ?_
          refine ge_iload hC dL_acts_287 (j := 1) rfl ?_
          refine ge_iload hC dL_acts_289 (j := 0) rfl ?_
          refine ge_iconst hC dL_acts_291 ?_
          refine ge_both (what := 6) (x := s4) (y := 1) (w := 0) (rest := []) hl9 hC hF (fun G' a' => (c_L_does_court_1 l hl9 N0 G' Y a' T 0 s4 ⟨by omega, by omega⟩ hIC)) (by refine ⟨fun z9 => ⟨?_, ?_, ?_⟩, fun z9 => ⟨?_, ?_⟩, fun z9 => ?_⟩ <;> intro z8 <;> first | exact z8.elim | exact z9.elim | omega) (va_cwS 6 hts gL_acts_L_both rfl rfl rfl (by decide +kernel) ⟨by decide, by decide⟩) rfl (Nat.le_of_ble_eq_true rfl) dL_acts_292 ⟨Nat.le_of_ble_eq_true rfl, Nat.le_of_ble_eq_true rfl⟩ (fun r54 T55 r54r hw => ?_)
          rcases hw with ⟨r54e, hwF, hT⟩ | ⟨r54e, hwF, hT⟩ | ⟨r54e, hwF, hT⟩ | ⟨r54e, hwF, hT⟩
          · skip
            have hT1 : T55 = zz_u T (13 + s4.toNat) 5 1 := hT
            obtain ⟨k11, k12, k13⟩ := zk_cw (i := s4.toNat) (f := 5) (y := 1) hI (by omega) (by omega) ⟨by decide, by decide⟩
            rw [← hT1] at k11 k13
            have k10 : T55 0 = T 0 := by rw [hT1, zz_u_off _ _ (by omega)]
            have k1a : T55 0 3 = T 0 3 := by rw [k10]
            have k1b : T55 0 7 = T 0 7 := by rw [k10]
            have k1c : T55 0 9 = T 0 9 := by rw [k10]
            have k1d : T55 0 10 = T 0 10 := by rw [k10]
            have ICT55 : zz_IC T55 := zi_IC (by omega) k11
            have r54q : 0 ≤ r54 ∧ r54 ≤ 1 := by rw [r54e]; exact k12
            refine ge_istore hC dL_acts_295 (by decide) (lv' := [(8, zz_v r54), (7, zz_v 1), (6, zz_v s4), (5, zz_v s1), (0, .ref (a 0)), (1, .ref (a 77)), (2, .ref (nA.getD 0 0)), (3, zz_v x), (4, zz_v z)]) rfl ?_
            refine ge_iload hC dL_acts_297 (j := 0) rfl ?_
            refine ge_if_eq hC dL_acts_299 (tgt := 308) (by decide) r54r (fun c56 => ?_) (fun c56 => ?_)
            · skip
              refine ge_aload_n hC dL_acts_308 rfl (j := 4) rfl ?_
              refine ge_aload_n hC dL_acts_309 rfl (j := 5) rfl ?_
              refine ge_iload hC dL_acts_310 (j := 3) rfl ?_
              refine ge_bipush hC dL_acts_312 rfl ?_
              refine ge_icmp_ge hC dL_acts_314 (tgt := 322) (by decide) ⟨by omega, by omega⟩ ⟨by decide, by decide⟩ (fun c57 => (by omega)) (fun c57 => ?_)
              refine ge_bipush hC dL_acts_317 rfl ?_
              refine ge_goto hC dL_acts_319 (tgt := 324) (by decide) ?_
              refine ge_iload hC dL_acts_324 (j := 2) rfl ?_
              refine ge_iload hC dL_acts_326 (j := 1) rfl ?_
              refine ge_iconst hC dL_acts_328 ?_
              refine ge_both (what := 6) (x := s4) (y := 1) (w := 0) (rest := []) hl9 hC hF (fun G' a' => (c_L_does_court_1 l hl9 N0 G' Y a' T55 0 s4 ⟨by omega, by omega⟩ ICT55)) (by refine ⟨fun z9 => ⟨?_, ?_, ?_⟩, fun z9 => ⟨?_, ?_⟩, fun z9 => ?_⟩ <;> intro z8 <;> first | exact z8.elim | exact z9.elim | omega) (va_cwS 6 hts gL_acts_L_both rfl rfl rfl (by decide +kernel) ⟨by decide, by decide⟩) rfl (Nat.le_of_ble_eq_true rfl) dL_acts_329 ⟨Nat.le_of_ble_eq_true rfl, Nat.le_of_ble_eq_true rfl⟩ (fun r58 T59 r58r hw => ?_)
              rcases hw with ⟨r58e, hwF, hT⟩ | ⟨r58e, hwF, hT⟩ | ⟨r58e, hwF, hT⟩ | ⟨r58e, hwF, hT⟩
              · skip
                have hT2 : T59 = zz_u T55 (13 + s4.toNat) 5 1 := hT
                obtain ⟨k21, k22, k23⟩ := zk_cw (i := s4.toNat) (f := 5) (y := 1) k11 (by omega) (by omega) ⟨by decide, by decide⟩
                rw [← hT2] at k21 k23
                have k20 : T59 0 = T55 0 := by rw [hT2, zz_u_off _ _ (by omega)]
                have k2a : T59 0 3 = T55 0 3 := by rw [k20]
                have k2b : T59 0 7 = T55 0 7 := by rw [k20]
                have k2c : T59 0 9 = T55 0 9 := by rw [k20]
                have k2d : T59 0 10 = T55 0 10 := by rw [k20]
                have ICT59 : zz_IC T59 := zi_IC (by omega) k21
                have r58q : r58 = 1 := by rw [r58e, hT1, zz_u_same]
                refine ge_iload hC dL_acts_332 (j := 1) rfl ?_
                refine ge_icmp_ne hC dL_acts_334 (tgt := 364) (by decide) r58r ⟨by decide, by decide⟩ (fun c60 => (by omega)) (fun c60 => ?_)
                refine ge_iload hC dL_acts_337 (j := 3) rfl ?_
                refine ge_iconst hC dL_acts_339 ?_
                refine ge_icmp_gt hC dL_acts_340 (tgt := 360) (by decide) ⟨by omega, by omega⟩ ⟨by decide, by decide⟩ (fun c61 => (by omega)) (fun c61 => ?_)
                refine ge_iload hC dL_acts_343 (j := 1) rfl ?_
                refine ge_if_eq hC dL_acts_345 (tgt := 360) (by decide) ⟨by decide, by decide⟩ (fun c62 => (by omega)) (fun c62 => ?_)
                refine ge_aload_n hC dL_acts_348 rfl (j := 4) rfl ?_
                refine ge_bipush hC dL_acts_349 rfl ?_
                refine ge_iload hC dL_acts_351 (j := 2) rfl ?_
                refine ge_ask (As := [zz_v 9, zz_v s4]) (rest := []) hC hF (c_X3_bar l hl9 N0 _ Y a T59 9 s4 ⟨by decide, by decide⟩ ⟨by omega, by omega⟩ ICT59) (by refine ⟨?_, ?_, ?_⟩ <;> first | omega | exact fun z => z) (cwV 2 hts gL_acts_X3_bar rfl rfl rfl (by decide +kernel) ⟨by decide, by decide⟩) rfl rfl (Nat.le_of_ble_eq_true rfl) dL_acts_353 ⟨Nat.le_of_ble_eq_true rfl, Nat.le_of_ble_eq_true rfl⟩ (fun _ q63r => ?_)
                obtain ⟨a64, a64e⟩ : ∃ a64 : Int, a64 = zz_ba T59 s4.toNat 9 (T59 0 10) := ⟨_, rfl⟩
                have a64r : zz_R a64 := by rw [a64e]; exact q63r
                refine ge_top (y := a64) a64e.symm ?_
                clear q63r
                have a64q : a64 = 1 := by rw [a64e, k2d]; exact k23
                refine ge_iconst hC dL_acts_356 ?_
                refine ge_icmp_ne hC dL_acts_357 (tgt := 364) (by decide) a64r ⟨by decide, by decide⟩ (fun c65 => (by omega)) (fun c65 => ?_)
                refine ge_iconst hC dL_acts_360 ?_
                refine ge_goto hC dL_acts_361 (tgt := 365) (by decide) ?_
                exact ge_ireturn hC hr rfl hlk dL_acts_365 (Nat.le_of_ble_eq_true rfl) ⟨rfl, T59, V, rfl, zi_wide (Nat.le_add_right _ _) k21, by unfold zi_V; first | omega | (refine ⟨?_, ?_, ?_, ?_⟩ <;> omega)⟩
              · exfalso; first | omega | exact hwF
              · exfalso; first | omega | exact hwF
              · exfalso; first | omega | exact hwF
            · skip
              refine ge_iload hC dL_acts_302 (j := 0) rfl ?_
              refine ge_iconst hC dL_acts_304 ?_
              refine ge_icmp_ne hC dL_acts_305 (tgt := 364) (by decide) r54r ⟨by decide, by decide⟩ (fun c66 => (by omega)) (fun c66 => ?_)
              refine ge_aload_n hC dL_acts_308 rfl (j := 4) rfl ?_
              refine ge_aload_n hC dL_acts_309 rfl (j := 5) rfl ?_
              refine ge_iload hC dL_acts_310 (j := 3) rfl ?_
              refine ge_bipush hC dL_acts_312 rfl ?_
              refine ge_icmp_ge hC dL_acts_314 (tgt := 322) (by decide) ⟨by omega, by omega⟩ ⟨by decide, by decide⟩ (fun c67 => (by omega)) (fun c67 => ?_)
              refine ge_bipush hC dL_acts_317 rfl ?_
              refine ge_goto hC dL_acts_319 (tgt := 324) (by decide) ?_
              refine ge_iload hC dL_acts_324 (j := 2) rfl ?_
              refine ge_iload hC dL_acts_326 (j := 1) rfl ?_
              refine ge_iconst hC dL_acts_328 ?_
              refine ge_both (what := 6) (x := s4) (y := 1) (w := 0) (rest := []) hl9 hC hF (fun G' a' => (c_L_does_court_1 l hl9 N0 G' Y a' T55 0 s4 ⟨by omega, by omega⟩ ICT55)) (by refine ⟨fun z9 => ⟨?_, ?_, ?_⟩, fun z9 => ⟨?_, ?_⟩, fun z9 => ?_⟩ <;> intro z8 <;> first | exact z8.elim | exact z9.elim | omega) (va_cwS 6 hts gL_acts_L_both rfl rfl rfl (by decide +kernel) ⟨by decide, by decide⟩) rfl (Nat.le_of_ble_eq_true rfl) dL_acts_329 ⟨Nat.le_of_ble_eq_true rfl, Nat.le_of_ble_eq_true rfl⟩ (fun r68 T69 r68r hw => ?_)
              rcases hw with ⟨r68e, hwF, hT⟩ | ⟨r68e, hwF, hT⟩ | ⟨r68e, hwF, hT⟩ | ⟨r68e, hwF, hT⟩
              · skip
                have hT2 : T69 = zz_u T55 (13 + s4.toNat) 5 1 := hT
                obtain ⟨k21, k22, k23⟩ := zk_cw (i := s4.toNat) (f := 5) (y := 1) k11 (by omega) (by omega) ⟨by decide, by decide⟩
                rw [← hT2] at k21 k23
                have k20 : T69 0 = T55 0 := by rw [hT2, zz_u_off _ _ (by omega)]
                have k2a : T69 0 3 = T55 0 3 := by rw [k20]
                have k2b : T69 0 7 = T55 0 7 := by rw [k20]
                have k2c : T69 0 9 = T55 0 9 := by rw [k20]
                have k2d : T69 0 10 = T55 0 10 := by rw [k20]
                have ICT69 : zz_IC T69 := zi_IC (by omega) k21
                have r68q : r68 = 1 := by rw [r68e, hT1, zz_u_same]
                refine ge_iload hC dL_acts_332 (j := 1) rfl ?_
                refine ge_icmp_ne hC dL_acts_334 (tgt := 364) (by decide) r68r ⟨by decide, by decide⟩ (fun c70 => (by omega)) (fun c70 => ?_)
                refine ge_iload hC dL_acts_337 (j := 3) rfl ?_
                refine ge_iconst hC dL_acts_339 ?_
                refine ge_icmp_gt hC dL_acts_340 (tgt := 360) (by decide) ⟨by omega, by omega⟩ ⟨by decide, by decide⟩ (fun c71 => (by omega)) (fun c71 => ?_)
                refine ge_iload hC dL_acts_343 (j := 1) rfl ?_
                refine ge_if_eq hC dL_acts_345 (tgt := 360) (by decide) ⟨by decide, by decide⟩ (fun c72 => (by omega)) (fun c72 => ?_)
                refine ge_aload_n hC dL_acts_348 rfl (j := 4) rfl ?_
                refine ge_bipush hC dL_acts_349 rfl ?_
                refine ge_iload hC dL_acts_351 (j := 2) rfl ?_
                refine ge_ask (As := [zz_v 9, zz_v s4]) (rest := []) hC hF (c_X3_bar l hl9 N0 _ Y a T69 9 s4 ⟨by decide, by decide⟩ ⟨by omega, by omega⟩ ICT69) (by refine ⟨?_, ?_, ?_⟩ <;> first | omega | exact fun z => z) (cwV 2 hts gL_acts_X3_bar rfl rfl rfl (by decide +kernel) ⟨by decide, by decide⟩) rfl rfl (Nat.le_of_ble_eq_true rfl) dL_acts_353 ⟨Nat.le_of_ble_eq_true rfl, Nat.le_of_ble_eq_true rfl⟩ (fun _ q73r => ?_)
                obtain ⟨a74, a74e⟩ : ∃ a74 : Int, a74 = zz_ba T69 s4.toNat 9 (T69 0 10) := ⟨_, rfl⟩
                have a74r : zz_R a74 := by rw [a74e]; exact q73r
                refine ge_top (y := a74) a74e.symm ?_
                clear q73r
                have a74q : a74 = 1 := by rw [a74e, k2d]; exact k23
                refine ge_iconst hC dL_acts_356 ?_
                refine ge_icmp_ne hC dL_acts_357 (tgt := 364) (by decide) a74r ⟨by decide, by decide⟩ (fun c75 => (by omega)) (fun c75 => ?_)
                refine ge_iconst hC dL_acts_360 ?_
                refine ge_goto hC dL_acts_361 (tgt := 365) (by decide) ?_
                exact ge_ireturn hC hr rfl hlk dL_acts_365 (Nat.le_of_ble_eq_true rfl) ⟨rfl, T69, V, rfl, zi_wide (Nat.le_add_right _ _) k21, by unfold zi_V; first | omega | (refine ⟨?_, ?_, ?_, ?_⟩ <;> omega)⟩
              · exfalso; first | omega | exact hwF
              · exfalso; first | omega | exact hwF
              · exfalso; first | omega | exact hwF
          · exfalso; first | omega | exact hwF
          · exfalso; first | omega | exact hwF
          · exfalso; first | omega | exact hwF
    · skip
      refine ge_aload_n hC dL_acts_209 rfl (j := 1) rfl ?_
      refine ge_bipush hC dL_acts_210 rfl ?_
      refine ge_iconst hC dL_acts_212 ?_
      refine ge_iconst hC dL_acts_213 ?_
      refine ge_iconst hC dL_acts_214 ?_
      refine ge_callC (what := 8) (x := 0) (y := 0) (w := 0) (rest := []) hl9 hC hF (fun G' a' => (c_L_does_plea l hl9 N0 G' Y a' T 0 0 0 ⟨by decide, by decide⟩ ⟨by decide, by decide⟩ hIC)) (vx_cwSW 5 hts gL_acts_L_call rfl rfl rfl (by decide +kernel) ⟨by decide, by decide⟩) rfl (Nat.le_of_ble_eq_true rfl) dL_acts_215 ⟨Nat.le_of_ble_eq_true rfl, Nat.le_of_ble_eq_true rfl⟩ (fun r76 T77 r76r hw => ?_)
      rcases hw with ⟨r76e, hwF, hT⟩ | ⟨r76e, hwF, hT⟩ | ⟨r76e, hwF, hT⟩ | ⟨r76e, hwF, hT⟩
      · exfalso; first | omega | exact hwF
      · skip
        rw [r76e, hT]
        refine ge_ldc hC (n := -2000000001) k17 dL_acts_218 ?_
        refine ge_icmp_ne hC dL_acts_220 (tgt := 241) (by decide) ⟨by decide, by decide⟩ ⟨by decide, by decide⟩ (fun c78 => (by omega)) (fun c78 => ?_)
        refine ge_aload_n hC dL_acts_223 rfl (j := 1) rfl ?_
        refine ge_bipush hC dL_acts_224 rfl ?_
        refine ge_iconst hC dL_acts_226 ?_
        refine ge_iconst hC dL_acts_227 ?_
        refine ge_iconst hC dL_acts_228 ?_
        refine ge_callC (what := 19) (x := 0) (y := 0) (w := 0) (rest := []) hl9 hC hF (fun G' a' => (c_L_does_fault l hl9 N0 G' Y a' T 0 0 0 ⟨by decide, by decide⟩ hIC)) (vx_cwSW 5 hts gL_acts_L_call rfl rfl rfl (by decide +kernel) ⟨by decide, by decide⟩) rfl (Nat.le_of_ble_eq_true rfl) dL_acts_229 ⟨Nat.le_of_ble_eq_true rfl, Nat.le_of_ble_eq_true rfl⟩ (fun r79 T80 r79r hw => ?_)
        rcases hw with ⟨r79e, hwF, hT⟩ | ⟨r79e, hwF, hT⟩ | ⟨r79e, hwF, hT⟩ | ⟨r79e, hwF, hT⟩
        · exfalso; first | omega | exact hwF
        · skip
          rw [r79e, hT]
          refine ge_ldc hC (n := -2000000001) k17 dL_acts_232 ?_
          refine ge_icmp_ne hC dL_acts_234 (tgt := 241) (by decide) ⟨by decide, by decide⟩ ⟨by decide, by decide⟩ (fun c81 => (by omega)) (fun c81 => ?_)
          refine ge_iconst hC dL_acts_237 ?_
          refine ge_goto hC dL_acts_238 (tgt := 242) (by decide) ?_
          exact ge_ireturn hC hr rfl hlk dL_acts_242 (Nat.le_of_ble_eq_true rfl) ⟨rfl, T, V, rfl, zi_wide (Nat.le_add_right _ _) hI, by unfold zi_V; first | omega | (refine ⟨?_, ?_, ?_, ?_⟩ <;> omega)⟩
        · exfalso; first | omega | exact hwF
        · exfalso; first | omega | exact hwF
      · exfalso; first | omega | exact hwF
      · exfalso; first | omega | exact hwF
  · skip
    refine ge_aload_n hC dL_acts_14 rfl (j := 3) rfl ?_
    refine ge_iconst hC dL_acts_15 ?_
    refine ge_iald hC hK (q := 0) (j := 0) hnA rfl rfl (by decide) dL_acts_16 (fun _ => ?_)
    refine ge_top (y := T 0 3) hV.1 ?_
    refine ge_if_le hC dL_acts_17 (tgt := 203) (by decide) ⟨by omega, by omega⟩ (fun c82 => ?_) (fun c82 => ?_)
    · skip
      refine ge_aload_n hC dL_acts_203 rfl (j := 3) rfl ?_
      refine ge_iconst hC dL_acts_204 ?_
      refine ge_iald hC hK (q := 0) (j := 1) hnA rfl rfl (by decide) dL_acts_205 (fun _ => ?_)
      refine ge_top (y := T 0 7) hV.2.1 ?_
      refine ge_if_ne hC dL_acts_206 (tgt := 243) (by decide) ⟨by omega, by omega⟩ (fun c83 => ?_) (fun c83 => ?_)
      · skip
        refine ge_iload hC dL_acts_243 (j := 5) rfl ?_
        refine ge_aload_n hC dL_acts_245 rfl (j := 3) rfl ?_
        refine ge_iconst hC dL_acts_246 ?_
        refine ge_iald hC hK (q := 0) (j := 1) hnA rfl rfl (by decide) dL_acts_247 (fun _ => ?_)
        refine ge_top (y := T 0 7) hV.2.1 ?_
        refine ge_some (x := z) (n := T 0 7) (rest := []) hC hF ⟨by omega, by omega⟩ (va_cwS 2 hts gL_acts_L_some rfl rfl rfl (by decide +kernel) ⟨by decide, by decide⟩) rfl (Nat.le_of_ble_eq_true rfl) dL_acts_248 ⟨Nat.le_of_ble_eq_true rfl, Nat.le_of_ble_eq_true rfl⟩ (fun s84 s84a s84b => ?_)
        refine ge_istore hC dL_acts_251 (by decide) (lv' := [(6, zz_v s84), (5, zz_v s1), (0, .ref (a 0)), (1, .ref (a 77)), (2, .ref (nA.getD 0 0)), (3, zz_v x), (4, zz_v z)]) rfl ?_
        refine ge_iload hC dL_acts_253 (j := 6) rfl ?_
        refine ge_iconst hC dL_acts_255 ?_
        refine ge_ishrX hC dL_acts_256 (fun z85 z85r => ?_)
        obtain ⟨z85a, z85b⟩ := id z85r
        refine ge_iconst hC dL_acts_257 ?_
        refine ge_some (x := z85) (n := 3) (rest := []) hC hF ⟨by omega, by omega⟩ (va_cwS 2 hts gL_acts_L_some rfl rfl rfl (by decide +kernel) ⟨by decide, by decide⟩) rfl (Nat.le_of_ble_eq_true rfl) dL_acts_258 ⟨Nat.le_of_ble_eq_true rfl, Nat.le_of_ble_eq_true rfl⟩ (fun s86 s86a s86b => ?_)
        refine ge_if_ne hC dL_acts_261 (tgt := 268) (by decide) ⟨by omega, by omega⟩ (fun c87 => ?_) (fun c87 => ?_)
        · skip
          refine ge_iconst hC dL_acts_268 ?_
          refine ge_istore hC dL_acts_269 (by decide) (lv' := [(7, zz_v 0), (6, zz_v s84), (5, zz_v s1), (0, .ref (a 0)), (1, .ref (a 77)), (2, .ref (nA.getD 0 0)), (3, zz_v x), (4, zz_v z)]) rfl ?_
          refine ge_aload_n hC dL_acts_271 rfl (j := 3) rfl ?_
          refine ge_aload_n hC dL_acts_272 rfl (j := 4) rfl ?_
          refine ge_iload hC dL_acts_273 (j := 2) rfl ?_
          refine ge_bipush hC dL_acts_275 rfl ?_
          refine ge_icmp_ge hC dL_acts_277 (tgt := 285) (by decide) ⟨by omega, by omega⟩ ⟨by decide, by decide⟩ (fun c88 => ?_) (fun c88 => ?_)
          · skip
            refine ge_bipush hC dL_acts_285 rfl ?_
            refine ge_iload hC dL_acts_287 (j := 1) rfl ?_
            refine ge_iload hC dL_acts_289 (j := 0) rfl ?_
            refine ge_iconst hC dL_acts_291 ?_
            refine ge_both (what := 7) (x := s84) (y := 0) (w := 0) (rest := []) hl9 hC hF (fun G' a' => (c_L_does_waive_0 l hl9 N0 G' Y a' T 0 s84 ⟨by omega, by omega⟩ hIC)) (by refine ⟨fun z9 => ⟨?_, ?_, ?_⟩, fun z9 => ⟨?_, ?_⟩, fun z9 => ?_⟩ <;> intro z8 <;> first | exact z8.elim | exact z9.elim | omega) (va_cwS 6 hts gL_acts_L_both rfl rfl rfl (by decide +kernel) ⟨by decide, by decide⟩) rfl (Nat.le_of_ble_eq_true rfl) dL_acts_292 ⟨Nat.le_of_ble_eq_true rfl, Nat.le_of_ble_eq_true rfl⟩ (fun r89 T90 r89r hw => ?_)
            rcases hw with ⟨r89e, hwF, hT⟩ | ⟨r89e, hwF, hT⟩ | ⟨r89e, hwF, hT⟩ | ⟨r89e, hwF, hT⟩
            · skip
              have hT1 : T90 = zz_u T (13 + s84.toNat) 6 0 := hT
              obtain ⟨k11, k12, k13⟩ := zk_cw (i := s84.toNat) (f := 6) (y := 0) hI (by omega) (by omega) ⟨by decide, by decide⟩
              rw [← hT1] at k11 k13
              have k10 : T90 0 = T 0 := by rw [hT1, zz_u_off _ _ (by omega)]
              have k1a : T90 0 3 = T 0 3 := by rw [k10]
              have k1b : T90 0 7 = T 0 7 := by rw [k10]
              have k1c : T90 0 9 = T 0 9 := by rw [k10]
              have k1d : T90 0 10 = T 0 10 := by rw [k10]
              have ICT90 : zz_IC T90 := zi_IC (by omega) k11
              have r89q : 0 ≤ r89 ∧ r89 ≤ 1 := by rw [r89e]; exact k12
              refine ge_istore hC dL_acts_295 (by decide) (lv' := [(8, zz_v r89), (7, zz_v 0), (6, zz_v s84), (5, zz_v s1), (0, .ref (a 0)), (1, .ref (a 77)), (2, .ref (nA.getD 0 0)), (3, zz_v x), (4, zz_v z)]) rfl ?_
              refine ge_iload hC dL_acts_297 (j := 0) rfl ?_
              refine ge_if_eq hC dL_acts_299 (tgt := 308) (by decide) r89r (fun c91 => ?_) (fun c91 => ?_)
              · skip
                refine ge_aload_n hC dL_acts_308 rfl (j := 4) rfl ?_
                refine ge_aload_n hC dL_acts_309 rfl (j := 5) rfl ?_
                refine ge_iload hC dL_acts_310 (j := 3) rfl ?_
                refine ge_bipush hC dL_acts_312 rfl ?_
                refine ge_icmp_ge hC dL_acts_314 (tgt := 322) (by decide) ⟨by omega, by omega⟩ ⟨by decide, by decide⟩ (fun c92 => ?_) (fun c92 => (by omega))
                refine ge_bipush hC dL_acts_322 rfl ?_
                refine ge_iload hC dL_acts_324 (j := 2) rfl ?_
                refine ge_iload hC dL_acts_326 (j := 1) rfl ?_
                refine ge_iconst hC dL_acts_328 ?_
                refine ge_both (what := 7) (x := s84) (y := 0) (w := 0) (rest := []) hl9 hC hF (fun G' a' => (c_L_does_waive_0 l hl9 N0 G' Y a' T90 0 s84 ⟨by omega, by omega⟩ ICT90)) (by refine ⟨fun z9 => ⟨?_, ?_, ?_⟩, fun z9 => ⟨?_, ?_⟩, fun z9 => ?_⟩ <;> intro z8 <;> first | exact z8.elim | exact z9.elim | omega) (va_cwS 6 hts gL_acts_L_both rfl rfl rfl (by decide +kernel) ⟨by decide, by decide⟩) rfl (Nat.le_of_ble_eq_true rfl) dL_acts_329 ⟨Nat.le_of_ble_eq_true rfl, Nat.le_of_ble_eq_true rfl⟩ (fun r93 T94 r93r hw => ?_)
                rcases hw with ⟨r93e, hwF, hT⟩ | ⟨r93e, hwF, hT⟩ | ⟨r93e, hwF, hT⟩ | ⟨r93e, hwF, hT⟩
                · skip
                  have hT2 : T94 = zz_u T90 (13 + s84.toNat) 6 0 := hT
                  obtain ⟨k21, k22, k23⟩ := zk_cw (i := s84.toNat) (f := 6) (y := 0) k11 (by omega) (by omega) ⟨by decide, by decide⟩
                  rw [← hT2] at k21 k23
                  have k20 : T94 0 = T90 0 := by rw [hT2, zz_u_off _ _ (by omega)]
                  have k2a : T94 0 3 = T90 0 3 := by rw [k20]
                  have k2b : T94 0 7 = T90 0 7 := by rw [k20]
                  have k2c : T94 0 9 = T90 0 9 := by rw [k20]
                  have k2d : T94 0 10 = T90 0 10 := by rw [k20]
                  have ICT94 : zz_IC T94 := zi_IC (by omega) k21
                  have r93q : r93 = 0 := by rw [r93e, hT1, zz_u_same]
                  refine ge_iload hC dL_acts_332 (j := 1) rfl ?_
                  refine ge_icmp_ne hC dL_acts_334 (tgt := 364) (by decide) r93r ⟨by decide, by decide⟩ (fun c95 => (by omega)) (fun c95 => ?_)
                  refine ge_iload hC dL_acts_337 (j := 3) rfl ?_
                  refine ge_iconst hC dL_acts_339 ?_
                  refine ge_icmp_gt hC dL_acts_340 (tgt := 360) (by decide) ⟨by omega, by omega⟩ ⟨by decide, by decide⟩ (fun c96 => ?_) (fun c96 => (by omega))
                  refine ge_iconst hC dL_acts_360 ?_
                  refine ge_goto hC dL_acts_361 (tgt := 365) (by decide) ?_
                  exact ge_ireturn hC hr rfl hlk dL_acts_365 (Nat.le_of_ble_eq_true rfl) ⟨rfl, T94, V, rfl, zi_wide (Nat.le_add_right _ _) k21, by unfold zi_V; first | omega | (refine ⟨?_, ?_, ?_, ?_⟩ <;> omega)⟩
                · exfalso; first | omega | exact hwF
                · exfalso; first | omega | exact hwF
                · exfalso; first | omega | exact hwF
              · skip
                refine ge_iload hC dL_acts_302 (j := 0) rfl ?_
                refine ge_iconst hC dL_acts_304 ?_
                refine ge_icmp_ne hC dL_acts_305 (tgt := 364) (by decide) r89r ⟨by decide, by decide⟩ (fun c97 => (by omega)) (fun c97 => ?_)
                refine ge_aload_n hC dL_acts_308 rfl (j := 4) rfl ?_
                refine ge_aload_n hC dL_acts_309 rfl (j := 5) rfl ?_
                refine ge_iload hC dL_acts_310 (j := 3) rfl ?_
                refine ge_bipush hC dL_acts_312 rfl ?_
                refine ge_icmp_ge hC dL_acts_314 (tgt := 322) (by decide) ⟨by omega, by omega⟩ ⟨by decide, by decide⟩ (fun c98 => ?_) (fun c98 => (by omega))
                refine ge_bipush hC dL_acts_322 rfl ?_
                refine ge_iload hC dL_acts_324 (j := 2) rfl ?_
                refine ge_iload hC dL_acts_326 (j := 1) rfl ?_
                refine ge_iconst hC dL_acts_328 ?_
                refine ge_both (what := 7) (x := s84) (y := 0) (w := 0) (rest := []) hl9 hC hF (fun G' a' => (c_L_does_waive_0 l hl9 N0 G' Y a' T90 0 s84 ⟨by omega, by omega⟩ ICT90)) (by refine ⟨fun z9 => ⟨?_, ?_, ?_⟩, fun z9 => ⟨?_, ?_⟩, fun z9 => ?_⟩ <;> intro z8 <;> first | exact z8.elim | exact z9.elim | omega) (va_cwS 6 hts gL_acts_L_both rfl rfl rfl (by decide +kernel) ⟨by decide, by decide⟩) rfl (Nat.le_of_ble_eq_true rfl) dL_acts_329 ⟨Nat.le_of_ble_eq_true rfl, Nat.le_of_ble_eq_true rfl⟩ (fun r99 T100 r99r hw => ?_)
                rcases hw with ⟨r99e, hwF, hT⟩ | ⟨r99e, hwF, hT⟩ | ⟨r99e, hwF, hT⟩ | ⟨r99e, hwF, hT⟩
                · skip
                  have hT2 : T100 = zz_u T90 (13 + s84.toNat) 6 0 := hT
                  obtain ⟨k21, k22, k23⟩ := zk_cw (i := s84.toNat) (f := 6) (y := 0) k11 (by omega) (by omega) ⟨by decide, by decide⟩
                  rw [← hT2] at k21 k23
                  have k20 : T100 0 = T90 0 := by rw [hT2, zz_u_off _ _ (by omega)]
                  have k2a : T100 0 3 = T90 0 3 := by rw [k20]
                  have k2b : T100 0 7 = T90 0 7 := by rw [k20]
                  have k2c : T100 0 9 = T90 0 9 := by rw [k20]
                  have k2d : T100 0 10 = T90 0 10 := by rw [k20]
                  have ICT100 : zz_IC T100 := zi_IC (by omega) k21
                  have r99q : r99 = 0 := by rw [r99e, hT1, zz_u_same]
                  refine ge_iload hC dL_acts_332 (j := 1) rfl ?_
                  refine ge_icmp_ne hC dL_acts_334 (tgt := 364) (by decide) r99r ⟨by decide, by decide⟩ (fun c101 => (by omega)) (fun c101 => ?_)
                  refine ge_iload hC dL_acts_337 (j := 3) rfl ?_
                  refine ge_iconst hC dL_acts_339 ?_
                  refine ge_icmp_gt hC dL_acts_340 (tgt := 360) (by decide) ⟨by omega, by omega⟩ ⟨by decide, by decide⟩ (fun c102 => ?_) (fun c102 => (by omega))
                  refine ge_iconst hC dL_acts_360 ?_
                  refine ge_goto hC dL_acts_361 (tgt := 365) (by decide) ?_
                  exact ge_ireturn hC hr rfl hlk dL_acts_365 (Nat.le_of_ble_eq_true rfl) ⟨rfl, T100, V, rfl, zi_wide (Nat.le_add_right _ _) k21, by unfold zi_V; first | omega | (refine ⟨?_, ?_, ?_, ?_⟩ <;> omega)⟩
                · exfalso; first | omega | exact hwF
                · exfalso; first | omega | exact hwF
                · exfalso; first | omega | exact hwF
            · exfalso; first | omega | exact hwF
            · exfalso; first | omega | exact hwF
            · exfalso; first | omega | exact hwF
          · skip
            refine ge_bipush hC dL_acts_280 rfl ?_
            refine ge_goto hC dL_acts_282 (tgt := 287) (by decide) ?_
            refine ge_iload hC dL_acts_287 (j := 1) rfl ?_
            refine ge_iload hC dL_acts_289 (j := 0) rfl ?_
            refine ge_iconst hC dL_acts_291 ?_
            refine ge_both (what := 6) (x := s84) (y := 0) (w := 0) (rest := []) hl9 hC hF (fun G' a' => (c_L_does_court_0 l hl9 N0 G' Y a' T 0 s84 ⟨by omega, by omega⟩ hIC)) (by refine ⟨fun z9 => ⟨?_, ?_, ?_⟩, fun z9 => ⟨?_, ?_⟩, fun z9 => ?_⟩ <;> intro z8 <;> first | exact z8.elim | exact z9.elim | omega) (va_cwS 6 hts gL_acts_L_both rfl rfl rfl (by decide +kernel) ⟨by decide, by decide⟩) rfl (Nat.le_of_ble_eq_true rfl) dL_acts_292 ⟨Nat.le_of_ble_eq_true rfl, Nat.le_of_ble_eq_true rfl⟩ (fun r103 T104 r103r hw => ?_)
            rcases hw with ⟨r103e, hwF, hT⟩ | ⟨r103e, hwF, hT⟩ | ⟨r103e, hwF, hT⟩ | ⟨r103e, hwF, hT⟩
            · skip
              have hT1 : T104 = zz_u T (13 + s84.toNat) 5 0 := hT
              obtain ⟨k11, k12, k13⟩ := zk_cw (i := s84.toNat) (f := 5) (y := 0) hI (by omega) (by omega) ⟨by decide, by decide⟩
              rw [← hT1] at k11 k13
              have k10 : T104 0 = T 0 := by rw [hT1, zz_u_off _ _ (by omega)]
              have k1a : T104 0 3 = T 0 3 := by rw [k10]
              have k1b : T104 0 7 = T 0 7 := by rw [k10]
              have k1c : T104 0 9 = T 0 9 := by rw [k10]
              have k1d : T104 0 10 = T 0 10 := by rw [k10]
              have ICT104 : zz_IC T104 := zi_IC (by omega) k11
              have r103q : 0 ≤ r103 ∧ r103 ≤ 1 := by rw [r103e]; exact k12
              refine ge_istore hC dL_acts_295 (by decide) (lv' := [(8, zz_v r103), (7, zz_v 0), (6, zz_v s84), (5, zz_v s1), (0, .ref (a 0)), (1, .ref (a 77)), (2, .ref (nA.getD 0 0)), (3, zz_v x), (4, zz_v z)]) rfl ?_
              refine ge_iload hC dL_acts_297 (j := 0) rfl ?_
              refine ge_if_eq hC dL_acts_299 (tgt := 308) (by decide) r103r (fun c105 => ?_) (fun c105 => ?_)
              · skip
                refine ge_aload_n hC dL_acts_308 rfl (j := 4) rfl ?_
                refine ge_aload_n hC dL_acts_309 rfl (j := 5) rfl ?_
                refine ge_iload hC dL_acts_310 (j := 3) rfl ?_
                refine ge_bipush hC dL_acts_312 rfl ?_
                refine ge_icmp_ge hC dL_acts_314 (tgt := 322) (by decide) ⟨by omega, by omega⟩ ⟨by decide, by decide⟩ (fun c106 => (by omega)) (fun c106 => ?_)
                refine ge_bipush hC dL_acts_317 rfl ?_
                refine ge_goto hC dL_acts_319 (tgt := 324) (by decide) ?_
                refine ge_iload hC dL_acts_324 (j := 2) rfl ?_
                refine ge_iload hC dL_acts_326 (j := 1) rfl ?_
                refine ge_iconst hC dL_acts_328 ?_
                refine ge_both (what := 6) (x := s84) (y := 0) (w := 0) (rest := []) hl9 hC hF (fun G' a' => (c_L_does_court_0 l hl9 N0 G' Y a' T104 0 s84 ⟨by omega, by omega⟩ ICT104)) (by refine ⟨fun z9 => ⟨?_, ?_, ?_⟩, fun z9 => ⟨?_, ?_⟩, fun z9 => ?_⟩ <;> intro z8 <;> first | exact z8.elim | exact z9.elim | omega) (va_cwS 6 hts gL_acts_L_both rfl rfl rfl (by decide +kernel) ⟨by decide, by decide⟩) rfl (Nat.le_of_ble_eq_true rfl) dL_acts_329 ⟨Nat.le_of_ble_eq_true rfl, Nat.le_of_ble_eq_true rfl⟩ (fun r107 T108 r107r hw => ?_)
                rcases hw with ⟨r107e, hwF, hT⟩ | ⟨r107e, hwF, hT⟩ | ⟨r107e, hwF, hT⟩ | ⟨r107e, hwF, hT⟩
                · skip
                  have hT2 : T108 = zz_u T104 (13 + s84.toNat) 5 0 := hT
                  obtain ⟨k21, k22, k23⟩ := zk_cw (i := s84.toNat) (f := 5) (y := 0) k11 (by omega) (by omega) ⟨by decide, by decide⟩
                  rw [← hT2] at k21 k23
                  have k20 : T108 0 = T104 0 := by rw [hT2, zz_u_off _ _ (by omega)]
                  have k2a : T108 0 3 = T104 0 3 := by rw [k20]
                  have k2b : T108 0 7 = T104 0 7 := by rw [k20]
                  have k2c : T108 0 9 = T104 0 9 := by rw [k20]
                  have k2d : T108 0 10 = T104 0 10 := by rw [k20]
                  have ICT108 : zz_IC T108 := zi_IC (by omega) k21
                  have r107q : r107 = 0 := by rw [r107e, hT1, zz_u_same]
                  refine ge_iload hC dL_acts_332 (j := 1) rfl ?_
                  refine ge_icmp_ne hC dL_acts_334 (tgt := 364) (by decide) r107r ⟨by decide, by decide⟩ (fun c109 => (by omega)) (fun c109 => ?_)
                  refine ge_iload hC dL_acts_337 (j := 3) rfl ?_
                  refine ge_iconst hC dL_acts_339 ?_
                  refine ge_icmp_gt hC dL_acts_340 (tgt := 360) (by decide) ⟨by omega, by omega⟩ ⟨by decide, by decide⟩ (fun c110 => (by omega)) (fun c110 => ?_)
                  refine ge_iload hC dL_acts_343 (j := 1) rfl ?_
                  refine ge_if_eq hC dL_acts_345 (tgt := 360) (by decide) ⟨by decide, by decide⟩ (fun c111 => ?_) (fun c111 => (by omega))
                  refine ge_iconst hC dL_acts_360 ?_
                  refine ge_goto hC dL_acts_361 (tgt := 365) (by decide) ?_
                  exact ge_ireturn hC hr rfl hlk dL_acts_365 (Nat.le_of_ble_eq_true rfl) ⟨rfl, T108, V, rfl, zi_wide (Nat.le_add_right _ _) k21, by unfold zi_V; first | omega | (refine ⟨?_, ?_, ?_, ?_⟩ <;> omega)⟩
                · exfalso; first | omega | exact hwF
                · exfalso; first | omega | exact hwF
                · exfalso; first | omega | exact hwF
              · skip
                refine ge_iload hC dL_acts_302 (j := 0) rfl ?_
                refine ge_iconst hC dL_acts_304 ?_
                refine ge_icmp_ne hC dL_acts_305 (tgt := 364) (by decide) r103r ⟨by decide, by decide⟩ (fun c112 => (by omega)) (fun c112 => ?_)
                refine ge_aload_n hC dL_acts_308 rfl (j := 4) rfl ?_
                refine ge_aload_n hC dL_acts_309 rfl (j := 5) rfl ?_
                refine ge_iload hC dL_acts_310 (j := 3) rfl ?_
                refine ge_bipush hC dL_acts_312 rfl ?_
                refine ge_icmp_ge hC dL_acts_314 (tgt := 322) (by decide) ⟨by omega, by omega⟩ ⟨by decide, by decide⟩ (fun c113 => (by omega)) (fun c113 => ?_)
                refine ge_bipush hC dL_acts_317 rfl ?_
                refine ge_goto hC dL_acts_319 (tgt := 324) (by decide) ?_
                refine ge_iload hC dL_acts_324 (j := 2) rfl ?_
                refine ge_iload hC dL_acts_326 (j := 1) rfl ?_
                refine ge_iconst hC dL_acts_328 ?_
                refine ge_both (what := 6) (x := s84) (y := 0) (w := 0) (rest := []) hl9 hC hF (fun G' a' => (c_L_does_court_0 l hl9 N0 G' Y a' T104 0 s84 ⟨by omega, by omega⟩ ICT104)) (by refine ⟨fun z9 => ⟨?_, ?_, ?_⟩, fun z9 => ⟨?_, ?_⟩, fun z9 => ?_⟩ <;> intro z8 <;> first | exact z8.elim | exact z9.elim | omega) (va_cwS 6 hts gL_acts_L_both rfl rfl rfl (by decide +kernel) ⟨by decide, by decide⟩) rfl (Nat.le_of_ble_eq_true rfl) dL_acts_329 ⟨Nat.le_of_ble_eq_true rfl, Nat.le_of_ble_eq_true rfl⟩ (fun r114 T115 r114r hw => ?_)
                rcases hw with ⟨r114e, hwF, hT⟩ | ⟨r114e, hwF, hT⟩ | ⟨r114e, hwF, hT⟩ | ⟨r114e, hwF, hT⟩
                · skip
                  have hT2 : T115 = zz_u T104 (13 + s84.toNat) 5 0 := hT
                  obtain ⟨k21, k22, k23⟩ := zk_cw (i := s84.toNat) (f := 5) (y := 0) k11 (by omega) (by omega) ⟨by decide, by decide⟩
                  rw [← hT2] at k21 k23
                  have k20 : T115 0 = T104 0 := by rw [hT2, zz_u_off _ _ (by omega)]
                  have k2a : T115 0 3 = T104 0 3 := by rw [k20]
                  have k2b : T115 0 7 = T104 0 7 := by rw [k20]
                  have k2c : T115 0 9 = T104 0 9 := by rw [k20]
                  have k2d : T115 0 10 = T104 0 10 := by rw [k20]
                  have ICT115 : zz_IC T115 := zi_IC (by omega) k21
                  have r114q : r114 = 0 := by rw [r114e, hT1, zz_u_same]
                  refine ge_iload hC dL_acts_332 (j := 1) rfl ?_
                  refine ge_icmp_ne hC dL_acts_334 (tgt := 364) (by decide) r114r ⟨by decide, by decide⟩ (fun c116 => (by omega)) (fun c116 => ?_)
                  refine ge_iload hC dL_acts_337 (j := 3) rfl ?_
                  refine ge_iconst hC dL_acts_339 ?_
                  refine ge_icmp_gt hC dL_acts_340 (tgt := 360) (by decide) ⟨by omega, by omega⟩ ⟨by decide, by decide⟩ (fun c117 => (by omega)) (fun c117 => ?_)
                  refine ge_iload hC dL_acts_343 (j := 1) rfl ?_
                  refine ge_if_eq hC dL_acts_345 (tgt := 360) (by decide) ⟨by decide, by decide⟩ (fun c118 => ?_) (fun c118 => (by omega))
                  refine ge_iconst hC dL_acts_360 ?_
                  refine ge_goto hC dL_acts_361 (tgt := 365) (by decide) ?_
                  exact ge_ireturn hC hr rfl hlk dL_acts_365 (Nat.le_of_ble_eq_true rfl) ⟨rfl, T115, V, rfl, zi_wide (Nat.le_add_right _ _) k21, by unfold zi_V; first | omega | (refine ⟨?_, ?_, ?_, ?_⟩ <;> omega)⟩
                · exfalso; first | omega | exact hwF
                · exfalso; first | omega | exact hwF
                · exfalso; first | omega | exact hwF
            · exfalso; first | omega | exact hwF
            · exfalso; first | omega | exact hwF
            · exfalso; first | omega | exact hwF
        · skip
          refine ge_iconst hC dL_acts_264 ?_
          refine ge_goto hC dL_acts_265 (tgt := 269) (by decide) ?_
          refine ge_istore hC dL_acts_269 (by decide) (lv' := [(7, zz_v 1), (6, zz_v s84), (5, zz_v s1), (0, .ref (a 0)), (1, .ref (a 77)), (2, .ref (nA.getD 0 0)), (3, zz_v x), (4, zz_v z)]) rfl ?_
          refine ge_aload_n hC dL_acts_271 rfl (j := 3) rfl ?_
          refine ge_aload_n hC dL_acts_272 rfl (j := 4) rfl ?_
          refine ge_iload hC dL_acts_273 (j := 2) rfl ?_
          refine ge_bipush hC dL_acts_275 rfl ?_
          refine ge_icmp_ge hC dL_acts_277 (tgt := 285) (by decide) ⟨by omega, by omega⟩ ⟨by decide, by decide⟩ (fun c119 => ?_) (fun c119 => ?_)
          · skip
            refine ge_bipush hC dL_acts_285 rfl ?_
            refine ge_iload hC dL_acts_287 (j := 1) rfl ?_
            refine ge_iload hC dL_acts_289 (j := 0) rfl ?_
            refine ge_iconst hC dL_acts_291 ?_
            refine ge_both (what := 7) (x := s84) (y := 1) (w := 0) (rest := []) hl9 hC hF (fun G' a' => (c_L_does_waive_1 l hl9 N0 G' Y a' T 0 s84 ⟨by omega, by omega⟩ hIC)) (by refine ⟨fun z9 => ⟨?_, ?_, ?_⟩, fun z9 => ⟨?_, ?_⟩, fun z9 => ?_⟩ <;> intro z8 <;> first | exact z8.elim | exact z9.elim | omega) (va_cwS 6 hts gL_acts_L_both rfl rfl rfl (by decide +kernel) ⟨by decide, by decide⟩) rfl (Nat.le_of_ble_eq_true rfl) dL_acts_292 ⟨Nat.le_of_ble_eq_true rfl, Nat.le_of_ble_eq_true rfl⟩ (fun r120 T121 r120r hw => ?_)
            rcases hw with ⟨r120e, hwF, hT⟩ | ⟨r120e, hwF, hT⟩ | ⟨r120e, hwF, hT⟩ | ⟨r120e, hwF, hT⟩
            · skip
              have hT1 : T121 = zz_u T (13 + s84.toNat) 6 1 := hT
              obtain ⟨k11, k12, k13⟩ := zk_cw (i := s84.toNat) (f := 6) (y := 1) hI (by omega) (by omega) ⟨by decide, by decide⟩
              rw [← hT1] at k11 k13
              have k10 : T121 0 = T 0 := by rw [hT1, zz_u_off _ _ (by omega)]
              have k1a : T121 0 3 = T 0 3 := by rw [k10]
              have k1b : T121 0 7 = T 0 7 := by rw [k10]
              have k1c : T121 0 9 = T 0 9 := by rw [k10]
              have k1d : T121 0 10 = T 0 10 := by rw [k10]
              have ICT121 : zz_IC T121 := zi_IC (by omega) k11
              have r120q : 0 ≤ r120 ∧ r120 ≤ 1 := by rw [r120e]; exact k12
              refine ge_istore hC dL_acts_295 (by decide) (lv' := [(8, zz_v r120), (7, zz_v 1), (6, zz_v s84), (5, zz_v s1), (0, .ref (a 0)), (1, .ref (a 77)), (2, .ref (nA.getD 0 0)), (3, zz_v x), (4, zz_v z)]) rfl ?_
              refine ge_iload hC dL_acts_297 (j := 0) rfl ?_
              refine ge_if_eq hC dL_acts_299 (tgt := 308) (by decide) r120r (fun c122 => ?_) (fun c122 => ?_)
              · skip
                refine ge_aload_n hC dL_acts_308 rfl (j := 4) rfl ?_
                refine ge_aload_n hC dL_acts_309 rfl (j := 5) rfl ?_
                refine ge_iload hC dL_acts_310 (j := 3) rfl ?_
                refine ge_bipush hC dL_acts_312 rfl ?_
                refine ge_icmp_ge hC dL_acts_314 (tgt := 322) (by decide) ⟨by omega, by omega⟩ ⟨by decide, by decide⟩ (fun c123 => ?_) (fun c123 => (by omega))
                refine ge_bipush hC dL_acts_322 rfl ?_
                refine ge_iload hC dL_acts_324 (j := 2) rfl ?_
                refine ge_iload hC dL_acts_326 (j := 1) rfl ?_
                refine ge_iconst hC dL_acts_328 ?_
                refine ge_both (what := 7) (x := s84) (y := 1) (w := 0) (rest := []) hl9 hC hF (fun G' a' => (c_L_does_waive_1 l hl9 N0 G' Y a' T121 0 s84 ⟨by omega, by omega⟩ ICT121)) (by refine ⟨fun z9 => ⟨?_, ?_, ?_⟩, fun z9 => ⟨?_, ?_⟩, fun z9 => ?_⟩ <;> intro z8 <;> first | exact z8.elim | exact z9.elim | omega) (va_cwS 6 hts gL_acts_L_both rfl rfl rfl (by decide +kernel) ⟨by decide, by decide⟩) rfl (Nat.le_of_ble_eq_true rfl) dL_acts_329 ⟨Nat.le_of_ble_eq_true rfl, Nat.le_of_ble_eq_true rfl⟩ (fun r124 T125 r124r hw => ?_)
                rcases hw with ⟨r124e, hwF, hT⟩ | ⟨r124e, hwF, hT⟩ | ⟨r124e, hwF, hT⟩ | ⟨r124e, hwF, hT⟩
                · skip
                  have hT2 : T125 = zz_u T121 (13 + s84.toNat) 6 1 := hT
                  obtain ⟨k21, k22, k23⟩ := zk_cw (i := s84.toNat) (f := 6) (y := 1) k11 (by omega) (by omega) ⟨by decide, by decide⟩
                  rw [← hT2] at k21 k23
                  have k20 : T125 0 = T121 0 := by rw [hT2, zz_u_off _ _ (by omega)]
                  have k2a : T125 0 3 = T121 0 3 := by rw [k20]
                  have k2b : T125 0 7 = T121 0 7 := by rw [k20]
                  have k2c : T125 0 9 = T121 0 9 := by rw [k20]
                  have k2d : T125 0 10 = T121 0 10 := by rw [k20]
                  have ICT125 : zz_IC T125 := zi_IC (by omega) k21
                  have r124q : r124 = 1 := by rw [r124e, hT1, zz_u_same]
                  refine ge_iload hC dL_acts_332 (j := 1) rfl ?_
                  refine ge_icmp_ne hC dL_acts_334 (tgt := 364) (by decide) r124r ⟨by decide, by decide⟩ (fun c126 => (by omega)) (fun c126 => ?_)
                  refine ge_iload hC dL_acts_337 (j := 3) rfl ?_
                  refine ge_iconst hC dL_acts_339 ?_
                  refine ge_icmp_gt hC dL_acts_340 (tgt := 360) (by decide) ⟨by omega, by omega⟩ ⟨by decide, by decide⟩ (fun c127 => ?_) (fun c127 => (by omega))
                  refine ge_iconst hC dL_acts_360 ?_
                  refine ge_goto hC dL_acts_361 (tgt := 365) (by decide) ?_
                  exact ge_ireturn hC hr rfl hlk dL_acts_365 (Nat.le_of_ble_eq_true rfl) ⟨rfl, T125, V, rfl, zi_wide (Nat.le_add_right _ _) k21, by unfold zi_V; first | omega | (refine ⟨?_, ?_, ?_, ?_⟩ <;> omega)⟩
                · exfalso; first | omega | exact hwF
                · exfalso; first | omega | exact hwF
                · exfalso; first | omega | exact hwF
              · skip
                refine ge_iload hC dL_acts_302 (j := 0) rfl ?_
                refine ge_iconst hC dL_acts_304 ?_
                refine ge_icmp_ne hC dL_acts_305 (tgt := 364) (by decide) r120r ⟨by decide, by decide⟩ (fun c128 => (by omega)) (fun c128 => ?_)
                refine ge_aload_n hC dL_acts_308 rfl (j := 4) rfl ?_
                refine ge_aload_n hC dL_acts_309 rfl (j := 5) rfl ?_
                refine ge_iload hC dL_acts_310 (j := 3) rfl ?_
                refine ge_bipush hC dL_acts_312 rfl ?_
                refine ge_icmp_ge hC dL_acts_314 (tgt := 322) (by decide) ⟨by omega, by omega⟩ ⟨by decide, by decide⟩ (fun c129 => ?_) (fun c129 => (by omega))
                refine ge_bipush hC dL_acts_322 rfl ?_
                refine ge_iload hC dL_acts_324 (j := 2) rfl ?_
                refine ge_iload hC dL_acts_326 (j := 1) rfl ?_
                refine ge_iconst hC dL_acts_328 ?_
                refine ge_both (what := 7) (x := s84) (y := 1) (w := 0) (rest := []) hl9 hC hF (fun G' a' => (c_L_does_waive_1 l hl9 N0 G' Y a' T121 0 s84 ⟨by omega, by omega⟩ ICT121)) (by refine ⟨fun z9 => ⟨?_, ?_, ?_⟩, fun z9 => ⟨?_, ?_⟩, fun z9 => ?_⟩ <;> intro z8 <;> first | exact z8.elim | exact z9.elim | omega) (va_cwS 6 hts gL_acts_L_both rfl rfl rfl (by decide +kernel) ⟨by decide, by decide⟩) rfl (Nat.le_of_ble_eq_true rfl) dL_acts_329 ⟨Nat.le_of_ble_eq_true rfl, Nat.le_of_ble_eq_true rfl⟩ (fun r130 T131 r130r hw => ?_)
                rcases hw with ⟨r130e, hwF, hT⟩ | ⟨r130e, hwF, hT⟩ | ⟨r130e, hwF, hT⟩ | ⟨r130e, hwF, hT⟩
                · skip
                  have hT2 : T131 = zz_u T121 (13 + s84.toNat) 6 1 := hT
                  obtain ⟨k21, k22, k23⟩ := zk_cw (i := s84.toNat) (f := 6) (y := 1) k11 (by omega) (by omega) ⟨by decide, by decide⟩
                  rw [← hT2] at k21 k23
                  have k20 : T131 0 = T121 0 := by rw [hT2, zz_u_off _ _ (by omega)]
                  have k2a : T131 0 3 = T121 0 3 := by rw [k20]
                  have k2b : T131 0 7 = T121 0 7 := by rw [k20]
                  have k2c : T131 0 9 = T121 0 9 := by rw [k20]
                  have k2d : T131 0 10 = T121 0 10 := by rw [k20]
                  have ICT131 : zz_IC T131 := zi_IC (by omega) k21
                  have r130q : r130 = 1 := by rw [r130e, hT1, zz_u_same]
                  refine ge_iload hC dL_acts_332 (j := 1) rfl ?_
                  refine ge_icmp_ne hC dL_acts_334 (tgt := 364) (by decide) r130r ⟨by decide, by decide⟩ (fun c132 => (by omega)) (fun c132 => ?_)
                  refine ge_iload hC dL_acts_337 (j := 3) rfl ?_
                  refine ge_iconst hC dL_acts_339 ?_
                  refine ge_icmp_gt hC dL_acts_340 (tgt := 360) (by decide) ⟨by omega, by omega⟩ ⟨by decide, by decide⟩ (fun c133 => ?_) (fun c133 => (by omega))
                  refine ge_iconst hC dL_acts_360 ?_
                  refine ge_goto hC dL_acts_361 (tgt := 365) (by decide) ?_
                  exact ge_ireturn hC hr rfl hlk dL_acts_365 (Nat.le_of_ble_eq_true rfl) ⟨rfl, T131, V, rfl, zi_wide (Nat.le_add_right _ _) k21, by unfold zi_V; first | omega | (refine ⟨?_, ?_, ?_, ?_⟩ <;> omega)⟩
                · exfalso; first | omega | exact hwF
                · exfalso; first | omega | exact hwF
                · exfalso; first | omega | exact hwF
            · exfalso; first | omega | exact hwF
            · exfalso; first | omega | exact hwF
            · exfalso; first | omega | exact hwF
          · skip
            refine ge_bipush hC dL_acts_280 rfl ?_
            refine ge_goto hC dL_acts_282 (tgt := 287) (by decide) ?_
            refine ge_iload hC dL_acts_287 (j := 1) rfl ?_
            refine ge_iload hC dL_acts_289 (j := 0) rfl ?_
            refine ge_iconst hC dL_acts_291 ?_
            refine ge_both (what := 6) (x := s84) (y := 1) (w := 0) (rest := []) hl9 hC hF (fun G' a' => (c_L_does_court_1 l hl9 N0 G' Y a' T 0 s84 ⟨by omega, by omega⟩ hIC)) (by refine ⟨fun z9 => ⟨?_, ?_, ?_⟩, fun z9 => ⟨?_, ?_⟩, fun z9 => ?_⟩ <;> intro z8 <;> first | exact z8.elim | exact z9.elim | omega) (va_cwS 6 hts gL_acts_L_both rfl rfl rfl (by decide +kernel) ⟨by decide, by decide⟩) rfl (Nat.le_of_ble_eq_true rfl) dL_acts_292 ⟨Nat.le_of_ble_eq_true rfl, Nat.le_of_ble_eq_true rfl⟩ (fun r134 T135 r134r hw => ?_)
            rcases hw with ⟨r134e, hwF, hT⟩ | ⟨r134e, hwF, hT⟩ | ⟨r134e, hwF, hT⟩ | ⟨r134e, hwF, hT⟩
            · skip
              have hT1 : T135 = zz_u T (13 + s84.toNat) 5 1 := hT
              obtain ⟨k11, k12, k13⟩ := zk_cw (i := s84.toNat) (f := 5) (y := 1) hI (by omega) (by omega) ⟨by decide, by decide⟩
              rw [← hT1] at k11 k13
              have k10 : T135 0 = T 0 := by rw [hT1, zz_u_off _ _ (by omega)]
              have k1a : T135 0 3 = T 0 3 := by rw [k10]
              have k1b : T135 0 7 = T 0 7 := by rw [k10]
              have k1c : T135 0 9 = T 0 9 := by rw [k10]
              have k1d : T135 0 10 = T 0 10 := by rw [k10]
              have ICT135 : zz_IC T135 := zi_IC (by omega) k11
              have r134q : 0 ≤ r134 ∧ r134 ≤ 1 := by rw [r134e]; exact k12
              refine ge_istore hC dL_acts_295 (by decide) (lv' := [(8, zz_v r134), (7, zz_v 1), (6, zz_v s84), (5, zz_v s1), (0, .ref (a 0)), (1, .ref (a 77)), (2, .ref (nA.getD 0 0)), (3, zz_v x), (4, zz_v z)]) rfl ?_
              refine ge_iload hC dL_acts_297 (j := 0) rfl ?_
              refine ge_if_eq hC dL_acts_299 (tgt := 308) (by decide) r134r (fun c136 => ?_) (fun c136 => ?_)
              · skip
                refine ge_aload_n hC dL_acts_308 rfl (j := 4) rfl ?_
                refine ge_aload_n hC dL_acts_309 rfl (j := 5) rfl ?_
                refine ge_iload hC dL_acts_310 (j := 3) rfl ?_
                refine ge_bipush hC dL_acts_312 rfl ?_
                refine ge_icmp_ge hC dL_acts_314 (tgt := 322) (by decide) ⟨by omega, by omega⟩ ⟨by decide, by decide⟩ (fun c137 => (by omega)) (fun c137 => ?_)
                refine ge_bipush hC dL_acts_317 rfl ?_
                refine ge_goto hC dL_acts_319 (tgt := 324) (by decide) ?_
                refine ge_iload hC dL_acts_324 (j := 2) rfl ?_
                refine ge_iload hC dL_acts_326 (j := 1) rfl ?_
                refine ge_iconst hC dL_acts_328 ?_
                refine ge_both (what := 6) (x := s84) (y := 1) (w := 0) (rest := []) hl9 hC hF (fun G' a' => (c_L_does_court_1 l hl9 N0 G' Y a' T135 0 s84 ⟨by omega, by omega⟩ ICT135)) (by refine ⟨fun z9 => ⟨?_, ?_, ?_⟩, fun z9 => ⟨?_, ?_⟩, fun z9 => ?_⟩ <;> intro z8 <;> first | exact z8.elim | exact z9.elim | omega) (va_cwS 6 hts gL_acts_L_both rfl rfl rfl (by decide +kernel) ⟨by decide, by decide⟩) rfl (Nat.le_of_ble_eq_true rfl) dL_acts_329 ⟨Nat.le_of_ble_eq_true rfl, Nat.le_of_ble_eq_true rfl⟩ (fun r138 T139 r138r hw => ?_)
                rcases hw with ⟨r138e, hwF, hT⟩ | ⟨r138e, hwF, hT⟩ | ⟨r138e, hwF, hT⟩ | ⟨r138e, hwF, hT⟩
                · skip
                  have hT2 : T139 = zz_u T135 (13 + s84.toNat) 5 1 := hT
                  obtain ⟨k21, k22, k23⟩ := zk_cw (i := s84.toNat) (f := 5) (y := 1) k11 (by omega) (by omega) ⟨by decide, by decide⟩
                  rw [← hT2] at k21 k23
                  have k20 : T139 0 = T135 0 := by rw [hT2, zz_u_off _ _ (by omega)]
                  have k2a : T139 0 3 = T135 0 3 := by rw [k20]
                  have k2b : T139 0 7 = T135 0 7 := by rw [k20]
                  have k2c : T139 0 9 = T135 0 9 := by rw [k20]
                  have k2d : T139 0 10 = T135 0 10 := by rw [k20]
                  have ICT139 : zz_IC T139 := zi_IC (by omega) k21
                  have r138q : r138 = 1 := by rw [r138e, hT1, zz_u_same]
                  refine ge_iload hC dL_acts_332 (j := 1) rfl ?_
                  refine ge_icmp_ne hC dL_acts_334 (tgt := 364) (by decide) r138r ⟨by decide, by decide⟩ (fun c140 => (by omega)) (fun c140 => ?_)
                  refine ge_iload hC dL_acts_337 (j := 3) rfl ?_
                  refine ge_iconst hC dL_acts_339 ?_
                  refine ge_icmp_gt hC dL_acts_340 (tgt := 360) (by decide) ⟨by omega, by omega⟩ ⟨by decide, by decide⟩ (fun c141 => (by omega)) (fun c141 => ?_)
                  refine ge_iload hC dL_acts_343 (j := 1) rfl ?_
                  refine ge_if_eq hC dL_acts_345 (tgt := 360) (by decide) ⟨by decide, by decide⟩ (fun c142 => (by omega)) (fun c142 => ?_)
                  refine ge_aload_n hC dL_acts_348 rfl (j := 4) rfl ?_
                  refine ge_bipush hC dL_acts_349 rfl ?_
                  refine ge_iload hC dL_acts_351 (j := 2) rfl ?_
                  refine ge_ask (As := [zz_v 9, zz_v s84]) (rest := []) hC hF (c_X3_bar l hl9 N0 _ Y a T139 9 s84 ⟨by decide, by decide⟩ ⟨by omega, by omega⟩ ICT139) (by refine ⟨?_, ?_, ?_⟩ <;> first | omega | exact fun z => z) (cwV 2 hts gL_acts_X3_bar rfl rfl rfl (by decide +kernel) ⟨by decide, by decide⟩) rfl rfl (Nat.le_of_ble_eq_true rfl) dL_acts_353 ⟨Nat.le_of_ble_eq_true rfl, Nat.le_of_ble_eq_true rfl⟩ (fun _ q143r => ?_)
                  obtain ⟨a144, a144e⟩ : ∃ a144 : Int, a144 = zz_ba T139 s84.toNat 9 (T139 0 10) := ⟨_, rfl⟩
                  have a144r : zz_R a144 := by rw [a144e]; exact q143r
                  refine ge_top (y := a144) a144e.symm ?_
                  clear q143r
                  have a144q : a144 = 1 := by rw [a144e, k2d]; exact k23
                  refine ge_iconst hC dL_acts_356 ?_
                  refine ge_icmp_ne hC dL_acts_357 (tgt := 364) (by decide) a144r ⟨by decide, by decide⟩ (fun c145 => (by omega)) (fun c145 => ?_)
                  refine ge_iconst hC dL_acts_360 ?_
                  refine ge_goto hC dL_acts_361 (tgt := 365) (by decide) ?_
                  exact ge_ireturn hC hr rfl hlk dL_acts_365 (Nat.le_of_ble_eq_true rfl) ⟨rfl, T139, V, rfl, zi_wide (Nat.le_add_right _ _) k21, by unfold zi_V; first | omega | (refine ⟨?_, ?_, ?_, ?_⟩ <;> omega)⟩
                · exfalso; first | omega | exact hwF
                · exfalso; first | omega | exact hwF
                · exfalso; first | omega | exact hwF
              · skip
                refine ge_iload hC dL_acts_302 (j := 0) rfl ?_
                refine ge_iconst hC dL_acts_304 ?_
                refine ge_icmp_ne hC dL_acts_305 (tgt := 364) (by decide) r134r ⟨by decide, by decide⟩ (fun c146 => (by omega)) (fun c146 => ?_)
                refine ge_aload_n hC dL_acts_308 rfl (j := 4) rfl ?_
                refine ge_aload_n hC dL_acts_309 rfl (j := 5) rfl ?_
                refine ge_iload hC dL_acts_310 (j := 3) rfl ?_
                refine ge_bipush hC dL_acts_312 rfl ?_
                refine ge_icmp_ge hC dL_acts_314 (tgt := 322) (by decide) ⟨by omega, by omega⟩ ⟨by decide, by decide⟩ (fun c147 => (by omega)) (fun c147 => ?_)
                refine ge_bipush hC dL_acts_317 rfl ?_
                refine ge_goto hC dL_acts_319 (tgt := 324) (by decide) ?_
                refine ge_iload hC dL_acts_324 (j := 2) rfl ?_
                refine ge_iload hC dL_acts_326 (j := 1) rfl ?_
                refine ge_iconst hC dL_acts_328 ?_
                refine ge_both (what := 6) (x := s84) (y := 1) (w := 0) (rest := []) hl9 hC hF (fun G' a' => (c_L_does_court_1 l hl9 N0 G' Y a' T135 0 s84 ⟨by omega, by omega⟩ ICT135)) (by refine ⟨fun z9 => ⟨?_, ?_, ?_⟩, fun z9 => ⟨?_, ?_⟩, fun z9 => ?_⟩ <;> intro z8 <;> first | exact z8.elim | exact z9.elim | omega) (va_cwS 6 hts gL_acts_L_both rfl rfl rfl (by decide +kernel) ⟨by decide, by decide⟩) rfl (Nat.le_of_ble_eq_true rfl) dL_acts_329 ⟨Nat.le_of_ble_eq_true rfl, Nat.le_of_ble_eq_true rfl⟩ (fun r148 T149 r148r hw => ?_)
                rcases hw with ⟨r148e, hwF, hT⟩ | ⟨r148e, hwF, hT⟩ | ⟨r148e, hwF, hT⟩ | ⟨r148e, hwF, hT⟩
                · skip
                  have hT2 : T149 = zz_u T135 (13 + s84.toNat) 5 1 := hT
                  obtain ⟨k21, k22, k23⟩ := zk_cw (i := s84.toNat) (f := 5) (y := 1) k11 (by omega) (by omega) ⟨by decide, by decide⟩
                  rw [← hT2] at k21 k23
                  have k20 : T149 0 = T135 0 := by rw [hT2, zz_u_off _ _ (by omega)]
                  have k2a : T149 0 3 = T135 0 3 := by rw [k20]
                  have k2b : T149 0 7 = T135 0 7 := by rw [k20]
                  have k2c : T149 0 9 = T135 0 9 := by rw [k20]
                  have k2d : T149 0 10 = T135 0 10 := by rw [k20]
                  have ICT149 : zz_IC T149 := zi_IC (by omega) k21
                  have r148q : r148 = 1 := by rw [r148e, hT1, zz_u_same]
                  refine ge_iload hC dL_acts_332 (j := 1) rfl ?_
                  refine ge_icmp_ne hC dL_acts_334 (tgt := 364) (by decide) r148r ⟨by decide, by decide⟩ (fun c150 => (by omega)) (fun c150 => ?_)
                  refine ge_iload hC dL_acts_337 (j := 3) rfl ?_
                  refine ge_iconst hC dL_acts_339 ?_
                  refine ge_icmp_gt hC dL_acts_340 (tgt := 360) (by decide) ⟨by omega, by omega⟩ ⟨by decide, by decide⟩ (fun c151 => (by omega)) (fun c151 => ?_)
                  refine ge_iload hC dL_acts_343 (j := 1) rfl ?_
                  refine ge_if_eq hC dL_acts_345 (tgt := 360) (by decide) ⟨by decide, by decide⟩ (fun c152 => (by omega)) (fun c152 => ?_)
                  refine ge_aload_n hC dL_acts_348 rfl (j := 4) rfl ?_
                  refine ge_bipush hC dL_acts_349 rfl ?_
                  refine ge_iload hC dL_acts_351 (j := 2) rfl ?_
                  refine ge_ask (As := [zz_v 9, zz_v s84]) (rest := []) hC hF (c_X3_bar l hl9 N0 _ Y a T149 9 s84 ⟨by decide, by decide⟩ ⟨by omega, by omega⟩ ICT149) (by refine ⟨?_, ?_, ?_⟩ <;> first | omega | exact fun z => z) (cwV 2 hts gL_acts_X3_bar rfl rfl rfl (by decide +kernel) ⟨by decide, by decide⟩) rfl rfl (Nat.le_of_ble_eq_true rfl) dL_acts_353 ⟨Nat.le_of_ble_eq_true rfl, Nat.le_of_ble_eq_true rfl⟩ (fun _ q153r => ?_)
                  obtain ⟨a154, a154e⟩ : ∃ a154 : Int, a154 = zz_ba T149 s84.toNat 9 (T149 0 10) := ⟨_, rfl⟩
                  have a154r : zz_R a154 := by rw [a154e]; exact q153r
                  refine ge_top (y := a154) a154e.symm ?_
                  clear q153r
                  have a154q : a154 = 1 := by rw [a154e, k2d]; exact k23
                  refine ge_iconst hC dL_acts_356 ?_
                  refine ge_icmp_ne hC dL_acts_357 (tgt := 364) (by decide) a154r ⟨by decide, by decide⟩ (fun c155 => (by omega)) (fun c155 => ?_)
                  refine ge_iconst hC dL_acts_360 ?_
                  refine ge_goto hC dL_acts_361 (tgt := 365) (by decide) ?_
                  exact ge_ireturn hC hr rfl hlk dL_acts_365 (Nat.le_of_ble_eq_true rfl) ⟨rfl, T149, V, rfl, zi_wide (Nat.le_add_right _ _) k21, by unfold zi_V; first | omega | (refine ⟨?_, ?_, ?_, ?_⟩ <;> omega)⟩
                · exfalso; first | omega | exact hwF
                · exfalso; first | omega | exact hwF
                · exfalso; first | omega | exact hwF
            · exfalso; first | omega | exact hwF
            · exfalso; first | omega | exact hwF
            · exfalso; first | omega | exact hwF
      · skip
        refine ge_aload_n hC dL_acts_209 rfl (j := 1) rfl ?_
        refine ge_bipush hC dL_acts_210 rfl ?_
        refine ge_iconst hC dL_acts_212 ?_
        refine ge_iconst hC dL_acts_213 ?_
        refine ge_iconst hC dL_acts_214 ?_
        refine ge_callC (what := 8) (x := 0) (y := 0) (w := 0) (rest := []) hl9 hC hF (fun G' a' => (c_L_does_plea l hl9 N0 G' Y a' T 0 0 0 ⟨by decide, by decide⟩ ⟨by decide, by decide⟩ hIC)) (vx_cwSW 5 hts gL_acts_L_call rfl rfl rfl (by decide +kernel) ⟨by decide, by decide⟩) rfl (Nat.le_of_ble_eq_true rfl) dL_acts_215 ⟨Nat.le_of_ble_eq_true rfl, Nat.le_of_ble_eq_true rfl⟩ (fun r156 T157 r156r hw => ?_)
        rcases hw with ⟨r156e, hwF, hT⟩ | ⟨r156e, hwF, hT⟩ | ⟨r156e, hwF, hT⟩ | ⟨r156e, hwF, hT⟩
        · exfalso; first | omega | exact hwF
        · skip
          rw [r156e, hT]
          refine ge_ldc hC (n := -2000000001) k17 dL_acts_218 ?_
          refine ge_icmp_ne hC dL_acts_220 (tgt := 241) (by decide) ⟨by decide, by decide⟩ ⟨by decide, by decide⟩ (fun c158 => (by omega)) (fun c158 => ?_)
          refine ge_aload_n hC dL_acts_223 rfl (j := 1) rfl ?_
          refine ge_bipush hC dL_acts_224 rfl ?_
          refine ge_iconst hC dL_acts_226 ?_
          refine ge_iconst hC dL_acts_227 ?_
          refine ge_iconst hC dL_acts_228 ?_
          refine ge_callC (what := 19) (x := 0) (y := 0) (w := 0) (rest := []) hl9 hC hF (fun G' a' => (c_L_does_fault l hl9 N0 G' Y a' T 0 0 0 ⟨by decide, by decide⟩ hIC)) (vx_cwSW 5 hts gL_acts_L_call rfl rfl rfl (by decide +kernel) ⟨by decide, by decide⟩) rfl (Nat.le_of_ble_eq_true rfl) dL_acts_229 ⟨Nat.le_of_ble_eq_true rfl, Nat.le_of_ble_eq_true rfl⟩ (fun r159 T160 r159r hw => ?_)
          rcases hw with ⟨r159e, hwF, hT⟩ | ⟨r159e, hwF, hT⟩ | ⟨r159e, hwF, hT⟩ | ⟨r159e, hwF, hT⟩
          · exfalso; first | omega | exact hwF
          · skip
            rw [r159e, hT]
            refine ge_ldc hC (n := -2000000001) k17 dL_acts_232 ?_
            refine ge_icmp_ne hC dL_acts_234 (tgt := 241) (by decide) ⟨by decide, by decide⟩ ⟨by decide, by decide⟩ (fun c161 => (by omega)) (fun c161 => ?_)
            refine ge_iconst hC dL_acts_237 ?_
            refine ge_goto hC dL_acts_238 (tgt := 242) (by decide) ?_
            exact ge_ireturn hC hr rfl hlk dL_acts_242 (Nat.le_of_ble_eq_true rfl) ⟨rfl, T, V, rfl, zi_wide (Nat.le_add_right _ _) hI, by unfold zi_V; first | omega | (refine ⟨?_, ?_, ?_, ?_⟩ <;> omega)⟩
          · exfalso; first | omega | exact hwF
          · exfalso; first | omega | exact hwF
        · exfalso; first | omega | exact hwF
        · exfalso; first | omega | exact hwF
    · skip
      refine ge_iload hC dL_acts_20 (j := 5) rfl ?_
      refine ge_iconst hC dL_acts_22 ?_
      refine ge_some (x := z) (n := 4) (rest := []) hC hF ⟨by omega, by omega⟩ (va_cwS 2 hts gL_acts_L_some rfl rfl rfl (by decide +kernel) ⟨by decide, by decide⟩) rfl (Nat.le_of_ble_eq_true rfl) dL_acts_23 ⟨Nat.le_of_ble_eq_true rfl, Nat.le_of_ble_eq_true rfl⟩ (fun s162 s162a s162b => ?_)
      refine ge_istore hC dL_acts_26 (by decide) (lv' := [(6, zz_v s162), (5, zz_v s1), (0, .ref (a 0)), (1, .ref (a 77)), (2, .ref (nA.getD 0 0)), (3, zz_v x), (4, zz_v z)]) rfl ?_
      refine ge_aload_n hC dL_acts_28 rfl (j := 4) rfl ?_
      refine ge_iconst hC dL_acts_29 ?_
      refine ge_iald hC hK (q := 0) (j := 1) hnA rfl rfl (by decide) dL_acts_30 (fun _ => ?_)
      refine ge_top (y := T 0 7) hV.2.1 ?_
      refine ge_bipush hC dL_acts_31 rfl ?_
      refine ge_icmp_eq hC dL_acts_33 (tgt := 54) (by decide) ⟨by omega, by omega⟩ ⟨by decide, by decide⟩ (fun c163 => ?_) (fun c163 => ?_)
      · skip
        refine ge_iconst hC dL_acts_54 ?_
        refine ge_goto hC dL_acts_55 (tgt := 59) (by decide) ?_
        refine ge_istore hC dL_acts_59 (by decide) (lv' := [(7, zz_v 1), (6, zz_v s162), (5, zz_v s1), (0, .ref (a 0)), (1, .ref (a 77)), (2, .ref (nA.getD 0 0)), (3, zz_v x), (4, zz_v z)]) rfl ?_
        refine ge_iload hC dL_acts_61 (j := 7) rfl ?_
        refine ge_iconst hC dL_acts_63 ?_
        refine ge_ishrX hC dL_acts_64 (fun z164 z164r => ?_)
        obtain ⟨z164a, z164b⟩ := id z164r
        refine ge_aload_n hC dL_acts_65 rfl (j := 5) rfl ?_
        refine ge_iconst hC dL_acts_66 ?_
        refine ge_iald hC hK (q := 0) (j := 0) hnA rfl rfl (by decide) dL_acts_67 (fun _ => ?_)
        refine ge_top (y := T 0 3) hV.1 ?_
        refine ge_some (x := z164) (n := T 0 3) (rest := []) hC hF ⟨by omega, by omega⟩ (va_cwS 2 hts gL_acts_L_some rfl rfl rfl (by decide +kernel) ⟨by decide, by decide⟩) rfl (Nat.le_of_ble_eq_true rfl) dL_acts_68 ⟨Nat.le_of_ble_eq_true rfl, Nat.le_of_ble_eq_true rfl⟩ (fun s165 s165a s165b => ?_)
        refine ge_istore hC dL_acts_71 (by decide) (lv' := [(8, zz_v s165), (7, zz_v 1), (6, zz_v s162), (5, zz_v s1), (0, .ref (a 0)), (1, .ref (a 77)), (2, .ref (nA.getD 0 0)), (3, zz_v x), (4, zz_v z)]) rfl ?_
        refine ge_iload hC dL_acts_73 (j := 8) rfl ?_
        refine ge_bipush hC dL_acts_75 rfl ?_
        refine ge_ishrX hC dL_acts_77 (fun z166 z166r => ?_)
        obtain ⟨z166a, z166b⟩ := id z166r
        refine ge_bipush hC dL_acts_78 rfl ?_
        refine ge_some (x := z166) (n := 101) (rest := []) hC hF ⟨by omega, by omega⟩ (va_cwS 2 hts gL_acts_L_some rfl rfl rfl (by decide +kernel) ⟨by decide, by decide⟩) rfl (Nat.le_of_ble_eq_true rfl) dL_acts_80 ⟨Nat.le_of_ble_eq_true rfl, Nat.le_of_ble_eq_true rfl⟩ (fun s167 s167a s167b => ?_)
        refine ge_istore hC dL_acts_83 (by decide) (lv' := [(9, zz_v s167), (8, zz_v s165), (7, zz_v 1), (6, zz_v s162), (5, zz_v s1), (0, .ref (a 0)), (1, .ref (a 77)), (2, .ref (nA.getD 0 0)), (3, zz_v x), (4, zz_v z)]) rfl ?_
        refine ge_aload_n hC dL_acts_85 rfl (j := 7) rfl ?_
        refine ge_iconst hC dL_acts_86 ?_
        refine ge_iald hC hK (q := 0) (j := 1) hnA rfl rfl (by decide) dL_acts_87 (fun _ => ?_)
        refine ge_top (y := T 0 7) hV.2.1 ?_
        refine ge_bipush hC dL_acts_88 rfl ?_
        refine ge_icmp_ne hC dL_acts_90 (tgt := 116) (by decide) ⟨by omega, by omega⟩ ⟨by decide, by decide⟩ (fun c168 => (by omega)) (fun c168 => ?_)
        refine ge_aload_n hC dL_acts_93 rfl (j := 5) rfl ?_
        refine ge_aload_n hC dL_acts_94 rfl (j := 6) rfl ?_
        refine ge_iconst hC dL_acts_95 ?_
        refine ge_iload hC dL_acts_96 (j := 1) rfl ?_
        refine ge_iload hC dL_acts_98 (j := 0) rfl ?_
        refine ge_bipush hC dL_acts_100 rfl ?_
        refine ge_both (what := 5) (x := s165) (y := s167) (w := 7) (rest := []) hl9 hC hF (fun G' a' => (c_L_does_act l hl9 N0 G' Y a' T s165 s167 7 ⟨by omega, by omega⟩ ⟨by omega, by omega⟩ ⟨by decide, by decide⟩ hIC)) (by refine ⟨fun z9 => ⟨?_, ?_, ?_⟩, fun z9 => ⟨?_, ?_⟩, fun z9 => ?_⟩ <;> intro z8 <;> first | exact z8.elim | exact z9.elim | omega) (va_cwS 6 hts gL_acts_L_both rfl rfl rfl (by decide +kernel) ⟨by decide, by decide⟩) rfl (Nat.le_of_ble_eq_true rfl) dL_acts_102 ⟨Nat.le_of_ble_eq_true rfl, Nat.le_of_ble_eq_true rfl⟩ (fun r169 T170 r169r hw => ?_)
        rcases hw with ⟨r169e, hwF, hT⟩ | ⟨r169e, hwF, hT⟩ | ⟨r169e, hwF, hT⟩ | ⟨r169e, hwF, hT⟩
        · exfalso; first | omega | exact hwF
        · exfalso; first | omega | exact hwF
        · exfalso; first | omega | exact hwF
        · skip
          rw [r169e, hT]
          refine ge_ldc hC (n := -2000000003) k23 dL_acts_105 ?_
          refine ge_icmp_ne hC dL_acts_107 (tgt := 114) (by decide) ⟨by decide, by decide⟩ ⟨by decide, by decide⟩ (fun c171 => (by omega)) (fun c171 => ?_)
          refine ge_iconst hC dL_acts_110 ?_
          refine ge_goto hC dL_acts_111 (tgt := 115) (by decide) ?_
          exact ge_ireturn hC hr rfl hlk dL_acts_115 (Nat.le_of_ble_eq_true rfl) ⟨rfl, T, V, rfl, zi_wide (Nat.le_add_right _ _) hI, by unfold zi_V; first | omega | (refine ⟨?_, ?_, ?_, ?_⟩ <;> omega)⟩
      · skip
        refine ge_aload_n hC dL_acts_36 rfl (j := 2) rfl ?_
        refine ge_iload hC dL_acts_37 (j := 0) rfl ?_
        refine ge_kind1 (x := s162) (rest := []) hl9 hC hF ⟨by omega, by omega⟩ hIC hI.1.1 (va_cwS 2 hts gL_acts_L_kind rfl rfl rfl (by decide +kernel) ⟨by decide, by decide⟩) rfl (Nat.le_of_ble_eq_true rfl) dL_acts_39 ⟨Nat.le_of_ble_eq_true rfl, Nat.le_of_ble_eq_true rfl⟩ ?_
        refine ge_if_eq hC dL_acts_42 (tgt := 58) (by decide) ⟨by decide, by decide⟩ (fun c172 => (by omega)) (fun c172 => ?_)
        refine ge_aload_n hC dL_acts_45 rfl (j := 3) rfl ?_
        refine ge_iload hC dL_acts_46 (j := 0) rfl ?_
        refine ge_kind2 (x := s162) (rest := []) hl9 hC hF ⟨by omega, by omega⟩ hIC hI.1.1 (va_cwS 2 hts gL_acts_L_kind rfl rfl rfl (by decide +kernel) ⟨by decide, by decide⟩) rfl (Nat.le_of_ble_eq_true rfl) dL_acts_48 ⟨Nat.le_of_ble_eq_true rfl, Nat.le_of_ble_eq_true rfl⟩ ?_
        obtain ⟨K173, hK173⟩ : ∃ K173 : zz_S, K173 = zk_kS T s162 := ⟨_, rfl⟩
        refine ge_eq (U' := (K173, K173, V)) (by rw [hK173]) ?_
        have kk : zi_K T K173 s162 := by rw [hK173]; exact zk_typed hA ⟨by omega, by omega⟩
        have ICK173 : zz_IC K173 := zi_IC_K hIC kk
        have kk3 : K173 0 3 = T 0 3 := kk.2.2.2 0 3 (by omega) (by omega)
        have kk7 : K173 0 7 = T 0 7 := kk.2.2.2 0 7 (by omega) (by omega)
        have kk1 := kk.1
        refine ge_if_eq hC dL_acts_51 (tgt := 58) (by decide) ⟨by decide, by decide⟩ (fun c174 => (by omega)) (fun c174 => ?_)
        refine ge_iconst hC dL_acts_54 ?_
        refine ge_goto hC dL_acts_55 (tgt := 59) (by decide) ?_
        refine ge_istore hC dL_acts_59 (by decide) (lv' := [(7, zz_v 1), (6, zz_v s162), (5, zz_v s1), (0, .ref (a 0)), (1, .ref (a 77)), (2, .ref (nA.getD 0 0)), (3, zz_v x), (4, zz_v z)]) rfl ?_
        refine ge_iload hC dL_acts_61 (j := 7) rfl ?_
        refine ge_iconst hC dL_acts_63 ?_
        refine ge_ishrX hC dL_acts_64 (fun z175 z175r => ?_)
        obtain ⟨z175a, z175b⟩ := id z175r
        refine ge_aload_n hC dL_acts_65 rfl (j := 5) rfl ?_
        refine ge_iconst hC dL_acts_66 ?_
        refine ge_iald hC hK (q := 0) (j := 0) hnA rfl rfl (by decide) dL_acts_67 (fun _ => ?_)
        refine ge_top (y := T 0 3) hV.1 ?_
        refine ge_some (x := z175) (n := T 0 3) (rest := []) hC hF ⟨by omega, by omega⟩ (va_cwS 2 hts gL_acts_L_some rfl rfl rfl (by decide +kernel) ⟨by decide, by decide⟩) rfl (Nat.le_of_ble_eq_true rfl) dL_acts_68 ⟨Nat.le_of_ble_eq_true rfl, Nat.le_of_ble_eq_true rfl⟩ (fun s176 s176a s176b => ?_)
        refine ge_istore hC dL_acts_71 (by decide) (lv' := [(8, zz_v s176), (7, zz_v 1), (6, zz_v s162), (5, zz_v s1), (0, .ref (a 0)), (1, .ref (a 77)), (2, .ref (nA.getD 0 0)), (3, zz_v x), (4, zz_v z)]) rfl ?_
        refine ge_iload hC dL_acts_73 (j := 8) rfl ?_
        refine ge_bipush hC dL_acts_75 rfl ?_
        refine ge_ishrX hC dL_acts_77 (fun z177 z177r => ?_)
        obtain ⟨z177a, z177b⟩ := id z177r
        refine ge_bipush hC dL_acts_78 rfl ?_
        refine ge_some (x := z177) (n := 101) (rest := []) hC hF ⟨by omega, by omega⟩ (va_cwS 2 hts gL_acts_L_some rfl rfl rfl (by decide +kernel) ⟨by decide, by decide⟩) rfl (Nat.le_of_ble_eq_true rfl) dL_acts_80 ⟨Nat.le_of_ble_eq_true rfl, Nat.le_of_ble_eq_true rfl⟩ (fun s178 s178a s178b => ?_)
        refine ge_istore hC dL_acts_83 (by decide) (lv' := [(9, zz_v s178), (8, zz_v s176), (7, zz_v 1), (6, zz_v s162), (5, zz_v s1), (0, .ref (a 0)), (1, .ref (a 77)), (2, .ref (nA.getD 0 0)), (3, zz_v x), (4, zz_v z)]) rfl ?_
        refine ge_aload_n hC dL_acts_85 rfl (j := 7) rfl ?_
        refine ge_iconst hC dL_acts_86 ?_
        refine ge_iald hC hK (q := 0) (j := 1) hnA rfl rfl (by decide) dL_acts_87 (fun _ => ?_)
        refine ge_top (y := T 0 7) hV.2.1 ?_
        refine ge_bipush hC dL_acts_88 rfl ?_
        refine ge_icmp_ne hC dL_acts_90 (tgt := 116) (by decide) ⟨by omega, by omega⟩ ⟨by decide, by decide⟩ (fun c179 => ?_) (fun c179 => (by omega))
        refine ge_aload_n hC dL_acts_116 rfl (j := 5) rfl ?_
        refine ge_aload_n hC dL_acts_117 rfl (j := 6) rfl ?_
        refine ge_iconst hC dL_acts_118 ?_
        refine ge_iload hC dL_acts_119 (j := 1) rfl ?_
        refine ge_iload hC dL_acts_121 (j := 0) rfl ?_
        refine ge_iload hC dL_acts_123 (j := 9) rfl ?_
        refine ge_bipush hC dL_acts_125 rfl ?_
        refine ge_ishrX hC dL_acts_127 (fun z180 z180r => ?_)
        obtain ⟨z180a, z180b⟩ := id z180r
        refine ge_sipush hC dL_acts_128 rfl ?_
        refine ge_some (x := z180) (n := 1001) (rest := [zz_v s178, zz_v s176, zz_v 5, .ref (a 77), .ref (a 0)]) hC hF ⟨by omega, by omega⟩ (va_cwS 2 hts gL_acts_L_some rfl rfl rfl (by decide +kernel) ⟨by decide, by decide⟩) rfl (Nat.le_of_ble_eq_true rfl) dL_acts_131 ⟨Nat.le_of_ble_eq_true rfl, Nat.le_of_ble_eq_true rfl⟩ (fun s181 s181a s181b => ?_)
        refine ge_both (what := 5) (x := s176) (y := s178) (w := s181) (rest := []) hl9 hC hF (fun G' a' => (c_L_does_act l hl9 N0 G' Y a' K173 s176 s178 s181 ⟨by omega, by omega⟩ ⟨by omega, by omega⟩ ⟨by omega, by omega⟩ ICK173)) (by refine ⟨fun z9 => ⟨?_, ?_, ?_⟩, fun z9 => ⟨?_, ?_⟩, fun z9 => ?_⟩ <;> intro z8 <;> first | exact z8.elim | exact z9.elim | omega) (va_cwS 6 hts gL_acts_L_both rfl rfl rfl (by decide +kernel) ⟨by decide, by decide⟩) rfl (Nat.le_of_ble_eq_true rfl) dL_acts_134 ⟨Nat.le_of_ble_eq_true rfl, Nat.le_of_ble_eq_true rfl⟩ (fun r182 T183 r182r hw => ?_)
        rcases hw with ⟨r182e, hwF, hT⟩ | ⟨r182e, hwF, hT⟩ | ⟨r182e, hwF, hT⟩ | ⟨r182e, hwF, hT⟩
        · skip
          have hT1 : T183 = zz_aS K173 s176 s178 s181 := hT
          obtain ⟨j1, ⟨j3, j7, j9, j10⟩, jr, jb⟩ := zk_act (w := s181) hI (k := s162) ⟨by omega, by omega⟩ kk (x := s176) (y := s178) ⟨by omega, by omega⟩ ⟨by omega, by omega⟩ ⟨by omega, by omega⟩ (by omega)
          rw [← hT1] at j1 j3 j7 j9 j10 jr jb
          have ICT183 : zz_IC T183 := zi_IC (by omega) j1
          have r182q : r182 = T 0 7 := by rw [r182e, kk1, if_neg (by omega)]; exact kk7
          refine ge_istore hC dL_acts_137 (by decide) (lv' := [(10, zz_v r182), (9, zz_v s178), (8, zz_v s176), (7, zz_v 1), (6, zz_v s162), (5, zz_v s1), (0, .ref (a 0)), (1, .ref (a 77)), (2, .ref (nA.getD 0 0)), (3, zz_v x), (4, zz_v z)]) rfl ?_
          refine ge_aload_n hC dL_acts_139 rfl (j := 8) rfl ?_
          refine ge_iconst hC dL_acts_140 ?_
          refine ge_dup2 hC dL_acts_141 rfl rfl ?_
          refine ge_iald hC hK (q := 0) (j := 1) hnA rfl rfl (by decide) dL_acts_142 (fun _ => ?_)
          refine ge_top (y := T 0 7) hV.2.1 ?_
          refine ge_iconst hC dL_acts_143 ?_
          refine ge_iadd hC dL_acts_144 ?_
          refine ge_iast hC hK (q := 0) (j := 1) hnA rfl rfl (by decide) ⟨by omega, by omega⟩ dL_acts_145 ?_
          obtain ⟨V184, hV184⟩ : ∃ V184 : zz_S, V184 = zz_u V 0 1 ((T 0 7) + 1) := ⟨_, rfl⟩
          refine ge_eq (U' := (T183, T183, V184)) (by rw [hV184]) ?_
          have dV184_0 : V184 0 0 = T 0 3 := by rw [hV184, zz_u_ne _ _ (by omega)]; exact hV.1
          have dV184_1 : V184 0 1 = (T 0 7) + 1 := by rw [hV184, zz_u_same]
          have dV184_2 : V184 0 2 = T 0 9 := by rw [hV184, zz_u_ne _ _ (by omega)]; exact hV.2.2.1
          have dV184_3 : V184 0 3 = T 0 10 := by rw [hV184, zz_u_ne _ _ (by omega)]; exact hV.2.2.2
          clear hV184
          refine ge_iload hC dL_acts_146 (j := 3) rfl ?_
          refine ge_if_eq hC dL_acts_148 (tgt := 201) (by decide) ⟨by decide, by decide⟩ (fun c185 => (by omega)) (fun c185 => ?_)
          refine ge_iload hC dL_acts_151 (j := 0) rfl ?_
          refine ge_aload_n hC dL_acts_153 rfl (j := 8) rfl ?_
          refine ge_iconst hC dL_acts_154 ?_
          refine ge_iald hC hK (q := 0) (j := 1) hnA rfl rfl (by decide) dL_acts_155 (fun _ => ?_)
          refine ge_top (y := (T 0 7) + 1) dV184_1 ?_
          refine ge_iconst hC dL_acts_156 ?_
          refine ge_isub hC dL_acts_157 ?_
          refine ge_icmp_ne hC dL_acts_158 (tgt := 201) (by decide) r182r ⟨by omega, by omega⟩ (fun c186 => (by omega)) (fun c186 => ?_)
          refine ge_aload_n hC dL_acts_161 rfl (j := 6) rfl ?_
          refine ge_iload hC dL_acts_162 (j := 0) rfl ?_
          refine ge_ask (As := [zz_v r182]) (rest := []) hC hF (c_X3_remedied l hl9 N0 _ Y a T183 r182 r182r ICT183) (by refine ⟨?_, ?_, ?_⟩ <;> first | omega | exact fun z => z) (cwV 1 hts gL_acts_X3_remedied rfl rfl rfl (by decide +kernel) ⟨by decide, by decide⟩) rfl rfl (Nat.le_of_ble_eq_true rfl) dL_acts_164 ⟨Nat.le_of_ble_eq_true rfl, Nat.le_of_ble_eq_true rfl⟩ (fun _ q187r => ?_)
          obtain ⟨a188, a188e⟩ : ∃ a188 : Int, a188 = T183 (13 + r182.toNat) 7 := ⟨_, rfl⟩
          have a188r : zz_R a188 := by rw [a188e]; exact q187r
          refine ge_top (y := a188) a188e.symm ?_
          clear q187r
          have a188q : a188 = -1 := by rw [a188e, r182q]; exact jr
          refine ge_iconst hC dL_acts_167 ?_
          refine ge_icmp_ne hC dL_acts_168 (tgt := 201) (by decide) a188r ⟨by decide, by decide⟩ (fun c189 => (by omega)) (fun c189 => ?_)
          refine ge_aload_n hC dL_acts_171 rfl (j := 6) rfl ?_
          refine ge_iconst hC dL_acts_172 ?_
          refine ge_iload hC dL_acts_173 (j := 0) rfl ?_
          refine ge_ask (As := [zz_v 0, zz_v r182]) (rest := []) hC hF (c_X3_bar l hl9 N0 _ Y a T183 0 r182 ⟨by decide, by decide⟩ r182r ICT183) (by refine ⟨?_, ?_, ?_⟩ <;> first | omega | exact fun z => z) (cwV 2 hts gL_acts_X3_bar rfl rfl rfl (by decide +kernel) ⟨by decide, by decide⟩) rfl rfl (Nat.le_of_ble_eq_true rfl) dL_acts_175 ⟨Nat.le_of_ble_eq_true rfl, Nat.le_of_ble_eq_true rfl⟩ (fun _ q190r => ?_)
          obtain ⟨a191, a191e⟩ : ∃ a191 : Int, a191 = zz_ba T183 r182.toNat 0 (T183 0 10) := ⟨_, rfl⟩
          have a191r : zz_R a191 := by rw [a191e]; exact q190r
          refine ge_top (y := a191) a191e.symm ?_
          clear q190r
          have a191q : a191 = 1 := by rw [a191e, r182q, j10]; exact jb
          refine ge_iconst hC dL_acts_178 ?_
          refine ge_icmp_ne hC dL_acts_179 (tgt := 201) (by decide) a191r ⟨by decide, by decide⟩ (fun c192 => (by omega)) (fun c192 => ?_)
          refine ge_aload_n hC dL_acts_182 rfl (j := 6) rfl ?_
          refine ge_iconst hC dL_acts_183 ?_
          refine ge_iload hC dL_acts_184 (j := 2) rfl ?_
          refine ge_bipush hC dL_acts_186 rfl ?_
          refine ge_iconst hC dL_acts_188 ?_
          refine ge_callC (what := 5) (x := s176) (y := 101) (w := 0) (rest := []) hl9 hC hF (fun G' a' => (c_L_does_act l hl9 N0 G' Y a' T183 s176 101 0 ⟨by omega, by omega⟩ ⟨by decide, by decide⟩ ⟨by decide, by decide⟩ ICT183)) (vx_cwSW 5 hts gL_acts_L_call rfl rfl rfl (by decide +kernel) ⟨by decide, by decide⟩) rfl (Nat.le_of_ble_eq_true rfl) dL_acts_189 ⟨Nat.le_of_ble_eq_true rfl, Nat.le_of_ble_eq_true rfl⟩ (fun r193 T194 r193r hw => ?_)
          rcases hw with ⟨r193e, hwF, hT⟩ | ⟨r193e, hwF, hT⟩ | ⟨r193e, hwF, hT⟩ | ⟨r193e, hwF, hT⟩
          · exfalso; first | omega | exact hwF
          · exfalso; first | omega | exact hwF
          · skip
            rw [r193e, hT]
            refine ge_ldc hC (n := -2000000002) k20 dL_acts_192 ?_
            refine ge_icmp_ne hC dL_acts_194 (tgt := 201) (by decide) ⟨by decide, by decide⟩ ⟨by decide, by decide⟩ (fun c195 => (by omega)) (fun c195 => ?_)
            refine ge_iconst hC dL_acts_197 ?_
            refine ge_goto hC dL_acts_198 (tgt := 202) (by decide) ?_
            exact ge_ireturn hC hr rfl hlk dL_acts_202 (Nat.le_of_ble_eq_true rfl) ⟨rfl, T183, V184, rfl, zi_wide (Nat.le_add_right _ _) j1, by unfold zi_V; first | omega | (refine ⟨?_, ?_, ?_, ?_⟩ <;> omega)⟩
          · exfalso; first | omega | exact hwF
        · exfalso; first | omega | exact hwF
        · exfalso; first | omega | exact hwF
        · exfalso; first | omega | exact hwF
