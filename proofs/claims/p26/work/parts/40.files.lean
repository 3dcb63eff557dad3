abbrev rm_L_files : Room := { frames := 11, cells := 80, slots := 480, locals := 228 }
set_option maxHeartbeats 4000000 in
set_option maxRecDepth 100000 in
theorem c_L_files (l : Launch) (hl9 : l.stackTraces = false) (N0 : Nat) (G : zz_G) (Y : zz_Y) (a : Nat → Nat) (nA : List Nat) (T V : zz_S) (n : Nat) (x z : Int) (hx : zz_R x) (hz : zz_R z) (hnA : 0 < nA.length) (hn : n + 2 ≤ 512) (hI : zi_ T n) (hV : zi_V T V) : Cy_ l yL_files wsL_files rm_L_files 80 [.ref (a 0), .ref (a 77), .ref (nA.getD 0 0), zz_v x, zz_v z] N0 G Y a nA (T, T, V) (zl_post (n + 2)) := by
  refine Cy_.of (cc := cL_files) (maxL := 13) (ret := (some .boolean)) (by decide) rfl (Nat.le_of_ble_eq_true rfl) ?_
  intro p e s m args below meth c hC hts hr hlk hF
  have hK := hF.2.1
  have k17 : (Cond.constant RL 17 (Int32.ofInt (-2000000001))).before args s = true := hts _ (by decide +kernel)
  have k23 : (Cond.constant RL 23 (Int32.ofInt (-2000000003))).before args s = true := hts _ (by decide +kernel)
  have hIC : zz_IC T := zi_IC (by omega) hI
  obtain ⟨hA, hB, hCC, hD, hE, hFF, hG, hH⟩ := id hI
  have hd0 := hB.1
  have hd1 := hFF.1
  have hd2 := hH.1
  have hd3 : 0 ≤ T 0 10 ∧ T 0 10 ≤ 5000 := hCC
  have hdc := hD.1
  have hlc := hE.1
  obtain ⟨hV0, hV1, hV2, hV3⟩ := id hV
  refine ge_lveq (lv' := [(0, .ref (a 0)), (1, .ref (a 77)), (2, .ref (nA.getD 0 0)), (3, zz_v x), (4, zz_v z)]) rfl ?_
  refine ge_aload_n hC dL_files_0 rfl (j := 2) rfl ?_
  refine ge_iconst hC dL_files_1 ?_
  refine ge_iald hC hK (q := 0) (j := 2) hnA rfl rfl (by decide) dL_files_2 (fun _ => ?_)
  refine ge_top (y := T 0 9) hV.2.2.1 ?_
  refine ge_if_ne hC dL_files_3 (tgt := 40) (by decide) ⟨by omega, by omega⟩ (fun c1 => ?_) (fun c1 => ?_)
  · skip
    refine ge_iload hC dL_files_40 (j := 4) rfl ?_
    refine ge_aload_n hC dL_files_42 rfl (j := 2) rfl ?_
    refine ge_iconst hC dL_files_43 ?_
    refine ge_iald hC hK (q := 0) (j := 2) hnA rfl rfl (by decide) dL_files_44 (fun _ => ?_)
    refine ge_top (y := T 0 9) hV.2.2.1 ?_
    refine ge_some (x := z) (n := T 0 9) (rest := []) hC hF ⟨by omega, by omega⟩ (va_cwS 2 hts gL_files_L_some rfl rfl rfl (by decide +kernel) ⟨by decide, by decide⟩) rfl (Nat.le_of_ble_eq_true rfl) dL_files_45 ⟨Nat.le_of_ble_eq_true rfl, Nat.le_of_ble_eq_true rfl⟩ (fun s2 s2a s2b => ?_)
    refine ge_istore hC dL_files_48 (by decide) (lv' := [(5, zz_v s2), (0, .ref (a 0)), (1, .ref (a 77)), (2, .ref (nA.getD 0 0)), (3, zz_v x), (4, zz_v z)]) rfl ?_
    refine ge_iload_n hC dL_files_50 rfl (j := 4) rfl ?_
    refine ge_bipush hC dL_files_51 rfl ?_
    refine ge_some (x := x) (n := 10) (rest := []) hC hF ⟨by omega, by omega⟩ (va_cwS 2 hts gL_files_L_some rfl rfl rfl (by decide +kernel) ⟨by decide, by decide⟩) rfl (Nat.le_of_ble_eq_true rfl) dL_files_53 ⟨Nat.le_of_ble_eq_true rfl, Nat.le_of_ble_eq_true rfl⟩ (fun s3 s3a s3b => ?_)
    refine ge_istore hC dL_files_56 (by decide) (lv' := [(6, zz_v s3), (5, zz_v s2), (0, .ref (a 0)), (1, .ref (a 77)), (2, .ref (nA.getD 0 0)), (3, zz_v x), (4, zz_v z)]) rfl ?_
    refine ge_aload_n hC dL_files_58 rfl (j := 2) rfl ?_
    refine ge_iload hC dL_files_59 (j := 1) rfl ?_
    refine ge_iconst hC dL_files_61 ?_
    refine ge_ask (As := [zz_v s2, zz_v 0]) (rest := []) hC hF (c_X3_about l hl9 N0 _ Y a T s2 0 ⟨by omega, by omega⟩ ⟨by decide, by decide⟩ hIC) (by refine ⟨?_, ?_, ?_⟩ <;> first | omega | exact fun z => z) (cwV 2 hts gL_files_X3_about rfl rfl rfl (by decide +kernel) ⟨by decide, by decide⟩) rfl rfl (Nat.le_of_ble_eq_true rfl) dL_files_62 ⟨Nat.le_of_ble_eq_true rfl, Nat.le_of_ble_eq_true rfl⟩ (fun _ q4r => ?_)
    obtain ⟨a5, a5e⟩ : ∃ a5 : Int, a5 = zz_ab T s2.toNat 0 := ⟨_, rfl⟩
    have a5r : zz_R a5 := by rw [a5e]; exact q4r
    refine ge_top (y := a5) a5e.symm ?_
    clear q4r
    have a5q : a5 = T (61 + s2.toNat) 1 := a5e
    refine ge_istore hC dL_files_65 (by decide) (lv' := [(7, zz_v a5), (6, zz_v s3), (5, zz_v s2), (0, .ref (a 0)), (1, .ref (a 77)), (2, .ref (nA.getD 0 0)), (3, zz_v x), (4, zz_v z)]) rfl ?_
    refine ge_aload_n hC dL_files_67 rfl (j := 3) rfl ?_
    refine ge_iload hC dL_files_68 (j := 2) rfl ?_
    refine ge_iconst hC dL_files_70 ?_
    refine ge_ask (As := [zz_v s2, zz_v 4]) (rest := []) hC hF (c_X3_about l hl9 N0 _ Y a T s2 4 ⟨by omega, by omega⟩ ⟨by decide, by decide⟩ hIC) (by refine ⟨?_, ?_, ?_⟩ <;> first | omega | exact fun z => z) (cwV 2 hts gL_files_X3_about rfl rfl rfl (by decide +kernel) ⟨by decide, by decide⟩) rfl rfl (Nat.le_of_ble_eq_true rfl) dL_files_71 ⟨Nat.le_of_ble_eq_true rfl, Nat.le_of_ble_eq_true rfl⟩ (fun _ q6r => ?_)
    obtain ⟨a7, a7e⟩ : ∃ a7 : Int, a7 = zz_ab T s2.toNat 4 := ⟨_, rfl⟩
    have a7r : zz_R a7 := by rw [a7e]; exact q6r
    refine ge_top (y := a7) a7e.symm ?_
    clear q6r
    have a7q := zi_ab4 T s2.toNat
    rw [← a7e] at a7q
    obtain ⟨h1, h2, h3, h4, h5, h6, h7, h8, h9, h10, h11, h12⟩ := hH.2 s2.toNat (by omega)
    have h10q := h10 (by omega)
    refine ge_istore hC dL_files_74 (by decide) (lv' := [(8, zz_v a7), (7, zz_v a5), (6, zz_v s3), (5, zz_v s2), (0, .ref (a 0)), (1, .ref (a 77)), (2, .ref (nA.getD 0 0)), (3, zz_v x), (4, zz_v z)]) rfl ?_
    refine ge_iload hC dL_files_76 (j := 2) rfl ?_
    refine ge_iconst hC dL_files_78 ?_
    refine ge_icmp_ge hC dL_files_79 (tgt := 188) (by decide) ⟨by omega, by omega⟩ ⟨by decide, by decide⟩ (fun c8 => ?_) (fun c8 => ?_)
    · skip
      refine ge_iload hC dL_files_188 (j := 2) rfl ?_
      refine ge_bipush hC dL_files_190 rfl ?_
      refine ge_icmp_ge hC dL_files_192 (tgt := 273) (by decide) ⟨by omega, by omega⟩ ⟨by decide, by decide⟩ (fun c9 => ?_) (fun c9 => ?_)
      · skip
        refine ge_iload hC dL_files_273 (j := 2) rfl ?_
        refine ge_bipush hC dL_files_275 rfl ?_
        refine ge_icmp_ge hC dL_files_277 (tgt := 351) (by decide) ⟨by omega, by omega⟩ ⟨by decide, by decide⟩ (fun c10 => ?_) (fun c10 => ?_)
        · skip
          refine ge_iload hC dL_files_351 (j := 2) rfl ?_
          refine ge_bipush hC dL_files_353 rfl ?_
          refine ge_icmp_ge hC dL_files_355 (tgt := 463) (by decide) ⟨by omega, by omega⟩ ⟨by decide, by decide⟩ (fun c11 => ?_) (fun c11 => ?_)
          · skip
            refine ge_iload hC dL_files_463 (j := 8) rfl ?_
            refine ge_iconst hC dL_files_465 ?_
            refine ge_ishrX hC dL_files_466 (fun z12 z12r => ?_)
            obtain ⟨z12a, z12b⟩ := id z12r
            refine ge_bipush hC dL_files_467 rfl ?_
            refine ge_some (x := z12) (n := 101) (rest := []) hC hF ⟨by omega, by omega⟩ (va_cwS 2 hts gL_files_L_some rfl rfl rfl (by decide +kernel) ⟨by decide, by decide⟩) rfl (Nat.le_of_ble_eq_true rfl) dL_files_469 ⟨Nat.le_of_ble_eq_true rfl, Nat.le_of_ble_eq_true rfl⟩ (fun s13 s13a s13b => ?_)
            refine ge_istore hC dL_files_472 (by decide) (lv' := [(9, zz_v s13), (8, zz_v a7), (7, zz_v a5), (6, zz_v s3), (5, zz_v s2), (0, .ref (a 0)), (1, .ref (a 77)), (2, .ref (nA.getD 0 0)), (3, zz_v x), (4, zz_v z)]) rfl ?_
            refine ge_aload_n hC dL_files_474 rfl (j := 5) rfl ?_
            refine ge_aload_n hC dL_files_475 rfl (j := 6) rfl ?_
            refine ge_bipush hC dL_files_476 rfl ?_
            refine ge_iload hC dL_files_478 (j := 4) rfl ?_
            refine ge_iload hC dL_files_480 (j := 0) rfl ?_
            refine ge_iconst hC dL_files_482 ?_
            refine ge_both (what := 15) (x := s2) (y := s13) (w := 0) (rest := []) hl9 hC hF (fun G' a' => (c_L_does_remedy l hl9 N0 G' Y a' T 0 s2 s13 ⟨by omega, by omega⟩ ⟨by omega, by omega⟩ hIC)) (by refine ⟨fun z9 => ⟨?_, ?_, ?_⟩, fun z9 => ⟨?_, ?_⟩, fun z9 => ?_⟩ <;> intro z8 <;> first | exact z8.elim | exact z9.elim | omega) (va_cwS 6 hts gL_files_L_both rfl rfl rfl (by decide +kernel) ⟨by decide, by decide⟩) rfl (Nat.le_of_ble_eq_true rfl) dL_files_483 ⟨Nat.le_of_ble_eq_true rfl, Nat.le_of_ble_eq_true rfl⟩ (fun r14 T15 r14r hw => ?_)
            rcases hw with ⟨r14e, hwF, hT⟩ | ⟨r14e, hwF, hT⟩ | ⟨r14e, hwF, hT⟩ | ⟨r14e, hwF, hT⟩
            · skip
              have hT1 : T15 = zz_rS T s2.toNat s13 (T 0 7).toNat := hT
              obtain ⟨k1, k0, k2, k3, k4⟩ := zk_remedy (k := s2.toNat) (x := s13) hI (by omega) ⟨by omega, by omega⟩
              rw [← hT1] at k1 k0 k2 k3 k4
              rw [← r14e] at k3
              have k10 : T15 0 = T 0 := by exact k0
              have k1a : T15 0 3 = T 0 3 := by rw [k10]
              have k1b : T15 0 7 = T 0 7 := by rw [k10]
              have k1c : T15 0 9 = T 0 9 := by rw [k10]
              have k1d : T15 0 10 = T 0 10 := by rw [k10]
              have ICT15 : zz_IC T15 := zi_IC (by omega) k1
              refine ge_istore hC dL_files_486 (by decide) (lv' := [(10, zz_v r14), (9, zz_v s13), (8, zz_v a7), (7, zz_v a5), (6, zz_v s3), (5, zz_v s2), (0, .ref (a 0)), (1, .ref (a 77)), (2, .ref (nA.getD 0 0)), (3, zz_v x), (4, zz_v z)]) rfl ?_
              refine ge_aload_n hC dL_files_488 rfl (j := 6) rfl ?_
              refine ge_iload hC dL_files_489 (j := 5) rfl ?_
              refine ge_iconst hC dL_files_491 ?_
              refine ge_ask (As := [zz_v s2, zz_v 1]) (rest := []) hC hF (c_X3_about l hl9 N0 _ Y a T15 s2 1 ⟨by omega, by omega⟩ ⟨by decide, by decide⟩ ICT15) (by refine ⟨?_, ?_, ?_⟩ <;> first | omega | exact fun z => z) (cwV 2 hts gL_files_X3_about rfl rfl rfl (by decide +kernel) ⟨by decide, by decide⟩) rfl rfl (Nat.le_of_ble_eq_true rfl) dL_files_492 ⟨Nat.le_of_ble_eq_true rfl, Nat.le_of_ble_eq_true rfl⟩ (fun _ q16r => ?_)
              obtain ⟨a17, a17e⟩ : ∃ a17 : Int, a17 = zz_ab T15 s2.toNat 1 := ⟨_, rfl⟩
              have a17r : zz_R a17 := by rw [a17e]; exact q16r
              refine ge_top (y := a17) a17e.symm ?_
              clear q16r
              have a17q : a17 = T (61 + s2.toNat) 0 := by rw [a17e]; show T15 (61 + s2.toNat) 0 = _; rw [k2]
              refine ge_istore hC dL_files_495 (by decide) (lv' := [(11, zz_v a17), (10, zz_v r14), (9, zz_v s13), (8, zz_v a7), (7, zz_v a5), (6, zz_v s3), (5, zz_v s2), (0, .ref (a 0)), (1, .ref (a 77)), (2, .ref (nA.getD 0 0)), (3, zz_v x), (4, zz_v z)]) rfl ?_
              refine ge_aload_n hC dL_files_497 rfl (j := 7) rfl ?_
              refine ge_iload hC dL_files_498 (j := 0) rfl ?_
              refine ge_ask (As := [zz_v a17]) (rest := []) hC hF (c_X3_remedied l hl9 N0 _ Y a T15 a17 a17r ICT15) (by refine ⟨?_, ?_, ?_⟩ <;> first | omega | exact fun z => z) (cwV 1 hts gL_files_X3_remedied rfl rfl rfl (by decide +kernel) ⟨by decide, by decide⟩) rfl rfl (Nat.le_of_ble_eq_true rfl) dL_files_500 ⟨Nat.le_of_ble_eq_true rfl, Nat.le_of_ble_eq_true rfl⟩ (fun _ q18r => ?_)
              obtain ⟨a19, a19e⟩ : ∃ a19 : Int, a19 = T15 (13 + a17.toNat) 7 := ⟨_, rfl⟩
              have a19r : zz_R a19 := by rw [a19e]; exact q18r
              refine ge_top (y := a19) a19e.symm ?_
              clear q18r
              have a19q : 0 ≤ a19 ∧ a19 ≤ 10 * s13 := by rw [a19e, a17q]; exact k4
              refine ge_istore hC dL_files_503 (by decide) (lv' := [(12, zz_v a19), (11, zz_v a17), (10, zz_v r14), (9, zz_v s13), (8, zz_v a7), (7, zz_v a5), (6, zz_v s3), (5, zz_v s2), (0, .ref (a 0)), (1, .ref (a 77)), (2, .ref (nA.getD 0 0)), (3, zz_v x), (4, zz_v z)]) rfl ?_
              refine ge_iload hC dL_files_505 (j := 2) rfl ?_
              refine ge_ldc hC (n := -2000000003) k23 dL_files_507 ?_
              refine ge_icmp_ne hC dL_files_509 (tgt := 536) (by decide) r14r ⟨by decide, by decide⟩ (fun c20 => ?_) (fun c20 => (by omega))
              refine ge_iload hC dL_files_536 (j := 5) rfl ?_
              refine ge_iconst hC dL_files_538 ?_
              refine ge_icmp_ne hC dL_files_539 (tgt := 590) (by decide) a5r ⟨by decide, by decide⟩ (fun c21 => (by omega)) (fun c21 => ?_)
              refine ge_aload_n hC dL_files_542 rfl (j := 8) rfl ?_
              refine ge_iload hC dL_files_543 (j := 7) rfl ?_
              refine ge_iconst hC dL_files_545 ?_
              refine ge_ask (As := [zz_v s2, zz_v 5]) (rest := []) hC hF (c_X3_about l hl9 N0 _ Y a T15 s2 5 ⟨by omega, by omega⟩ ⟨by decide, by decide⟩ ICT15) (by refine ⟨?_, ?_, ?_⟩ <;> first | omega | exact fun z => z) (cwV 2 hts gL_files_X3_about rfl rfl rfl (by decide +kernel) ⟨by decide, by decide⟩) rfl rfl (Nat.le_of_ble_eq_true rfl) dL_files_546 ⟨Nat.le_of_ble_eq_true rfl, Nat.le_of_ble_eq_true rfl⟩ (fun _ q22r => ?_)
              obtain ⟨a23, a23e⟩ : ∃ a23 : Int, a23 = zz_ab T15 s2.toNat 5 := ⟨_, rfl⟩
              have a23r : zz_R a23 := by rw [a23e]; exact q22r
              refine ge_top (y := a23) a23e.symm ?_
              clear q22r
              have a23q : a23 = T (61 + s2.toNat) 7 := by rw [a23e]; show T15 (61 + s2.toNat) 7 = _; rw [k2]
              refine ge_if_le hC dL_files_549 (tgt := 590) (by decide) a23r (fun c24 => (by omega)) (fun c24 => ?_)
              refine ge_iload hC dL_files_552 (j := 2) rfl ?_
              refine ge_iconst hC dL_files_554 ?_
              refine ge_icmp_lt hC dL_files_555 (tgt := 590) (by decide) r14r ⟨by decide, by decide⟩ (fun c25 => (by omega)) (fun c25 => ?_)
              refine ge_iload hC dL_files_558 (j := 2) rfl ?_
              refine ge_iconst hC dL_files_560 ?_
              refine ge_aload_n hC dL_files_561 rfl (j := 8) rfl ?_
              refine ge_iload hC dL_files_562 (j := 1) rfl ?_
              refine ge_ask (As := [zz_v a17]) (rest := [zz_v 1, zz_v r14]) hC hF (c_X3_likes l hl9 N0 _ Y a T15 a17 a17r ICT15) (by refine ⟨?_, ?_, ?_⟩ <;> first | omega | exact fun z => z) (cwV 1 hts gL_files_X3_likes rfl rfl rfl (by decide +kernel) ⟨by decide, by decide⟩) rfl rfl (Nat.le_of_ble_eq_true rfl) dL_files_564 ⟨Nat.le_of_ble_eq_true rfl, Nat.le_of_ble_eq_true rfl⟩ (fun _ q26r => ?_)
              obtain ⟨a27, a27e⟩ : ∃ a27 : Int, a27 = zz_ln T15 a17.toNat (T15 0 7).toNat := ⟨_, rfl⟩
              have a27r : zz_R a27 := by rw [a27e]; exact q26r
              refine ge_top (y := a27) a27e.symm ?_
              clear q26r
              have a27b := zz_ln_rng T15 a17.toNat (T15 0 7).toNat
              rw [← a27e] at a27b
              have a27q : r14 ≤ 1 + a27 := by rw [a27e, a17q, k1b]; exact k3.2
              refine ge_iadd hC dL_files_567 ?_
              refine ge_icmp_gt hC dL_files_568 (tgt := 590) (by decide) r14r ⟨by omega, by omega⟩ (fun c28 => (by omega)) (fun c28 => ?_)
              refine ge_iload hC dL_files_571 (j := 0) rfl ?_
              refine ge_if_lt hC dL_files_573 (tgt := 590) (by decide) a19r (fun c29 => (by omega)) (fun c29 => ?_)
              refine ge_iload hC dL_files_576 (j := 0) rfl ?_
              refine ge_bipush hC dL_files_578 rfl ?_
              refine ge_iload hC dL_files_580 (j := 3) rfl ?_
              refine ge_imul hC dL_files_582 ?_
              refine ge_icmp_gt hC dL_files_583 (tgt := 590) (by decide) a19r ⟨by omega, by omega⟩ (fun c30 => (by omega)) (fun c30 => ?_)
              refine ge_iconst hC dL_files_586 ?_
              refine ge_goto hC dL_files_587 (tgt := 591) (by decide) ?_
              exact ge_ireturn hC hr rfl hlk dL_files_591 (Nat.le_of_ble_eq_true rfl) ⟨rfl, T15, V, rfl, zi_wide (Nat.le_add_right _ _) k1, by unfold zi_V; first | omega | (refine ⟨?_, ?_, ?_, ?_⟩ <;> omega)⟩
            · exfalso; first | omega | exact hwF
            · exfalso; first | omega | exact hwF
            · skip
              rw [r14e, hT]
              refine ge_istore hC dL_files_486 (by decide) (lv' := [(10, zz_v (-2000000003)), (9, zz_v s13), (8, zz_v a7), (7, zz_v a5), (6, zz_v s3), (5, zz_v s2), (0, .ref (a 0)), (1, .ref (a 77)), (2, .ref (nA.getD 0 0)), (3, zz_v x), (4, zz_v z)]) rfl ?_
              refine ge_aload_n hC dL_files_488 rfl (j := 6) rfl ?_
              refine ge_iload hC dL_files_489 (j := 5) rfl ?_
              refine ge_iconst hC dL_files_491 ?_
              refine ge_ask (As := [zz_v s2, zz_v 1]) (rest := []) hC hF (c_X3_about l hl9 N0 _ Y a T s2 1 ⟨by omega, by omega⟩ ⟨by decide, by decide⟩ hIC) (by refine ⟨?_, ?_, ?_⟩ <;> first | omega | exact fun z => z) (cwV 2 hts gL_files_X3_about rfl rfl rfl (by decide +kernel) ⟨by decide, by decide⟩) rfl rfl (Nat.le_of_ble_eq_true rfl) dL_files_492 ⟨Nat.le_of_ble_eq_true rfl, Nat.le_of_ble_eq_true rfl⟩ (fun _ q31r => ?_)
              obtain ⟨a32, a32e⟩ : ∃ a32 : Int, a32 = zz_ab T s2.toNat 1 := ⟨_, rfl⟩
              have a32r : zz_R a32 := by rw [a32e]; exact q31r
              refine ge_top (y := a32) a32e.symm ?_
              clear q31r
              have a32q : a32 = T (61 + s2.toNat) 0 := by rw [a32e]; rfl
              refine ge_istore hC dL_files_495 (by decide) (lv' := [(11, zz_v a32), (10, zz_v (-2000000003)), (9, zz_v s13), (8, zz_v a7), (7, zz_v a5), (6, zz_v s3), (5, zz_v s2), (0, .ref (a 0)), (1, .ref (a 77)), (2, .ref (nA.getD 0 0)), (3, zz_v x), (4, zz_v z)]) rfl ?_
              refine ge_aload_n hC dL_files_497 rfl (j := 7) rfl ?_
              refine ge_iload hC dL_files_498 (j := 0) rfl ?_
              refine ge_ask (As := [zz_v a32]) (rest := []) hC hF (c_X3_remedied l hl9 N0 _ Y a T a32 a32r hIC) (by refine ⟨?_, ?_, ?_⟩ <;> first | omega | exact fun z => z) (cwV 1 hts gL_files_X3_remedied rfl rfl rfl (by decide +kernel) ⟨by decide, by decide⟩) rfl rfl (Nat.le_of_ble_eq_true rfl) dL_files_500 ⟨Nat.le_of_ble_eq_true rfl, Nat.le_of_ble_eq_true rfl⟩ (fun _ q33r => ?_)
              obtain ⟨a34, a34e⟩ : ∃ a34 : Int, a34 = T (13 + a32.toNat) 7 := ⟨_, rfl⟩
              have a34r : zz_R a34 := by rw [a34e]; exact q33r
              refine ge_top (y := a34) a34e.symm ?_
              clear q33r
              refine ge_istore hC dL_files_503 (by decide) (lv' := [(12, zz_v a34), (11, zz_v a32), (10, zz_v (-2000000003)), (9, zz_v s13), (8, zz_v a7), (7, zz_v a5), (6, zz_v s3), (5, zz_v s2), (0, .ref (a 0)), (1, .ref (a 77)), (2, .ref (nA.getD 0 0)), (3, zz_v x), (4, zz_v z)]) rfl ?_
              refine ge_iload hC dL_files_505 (j := 2) rfl ?_
              refine ge_ldc hC (n := -2000000003) k23 dL_files_507 ?_
              refine ge_icmp_ne hC dL_files_509 (tgt := 536) (by decide) ⟨by decide, by decide⟩ ⟨by decide, by decide⟩ (fun c35 => (by omega)) (fun c35 => ?_)
              refine ge_iload hC dL_files_512 (j := 5) rfl ?_
              refine ge_iconst hC dL_files_514 ?_
              refine ge_icmp_ne hC dL_files_515 (tgt := 528) (by decide) a5r ⟨by decide, by decide⟩ (fun c36 => ?_) (fun c36 => ?_)
              · skip
                refine ge_iconst hC dL_files_528 ?_
                refine ge_goto hC dL_files_529 (tgt := 591) (by decide) ?_
                exact ge_ireturn hC hr rfl hlk dL_files_591 (Nat.le_of_ble_eq_true rfl) ⟨rfl, T, V, rfl, zi_wide (Nat.le_add_right _ _) hI, by unfold zi_V; first | omega | (refine ⟨?_, ?_, ?_, ?_⟩ <;> omega)⟩
              · skip
                refine ge_aload_n hC dL_files_518 rfl (j := 8) rfl ?_
                refine ge_iload hC dL_files_519 (j := 7) rfl ?_
                refine ge_iconst hC dL_files_521 ?_
                refine ge_ask (As := [zz_v s2, zz_v 5]) (rest := []) hC hF (c_X3_about l hl9 N0 _ Y a T s2 5 ⟨by omega, by omega⟩ ⟨by decide, by decide⟩ hIC) (by refine ⟨?_, ?_, ?_⟩ <;> first | omega | exact fun z => z) (cwV 2 hts gL_files_X3_about rfl rfl rfl (by decide +kernel) ⟨by decide, by decide⟩) rfl rfl (Nat.le_of_ble_eq_true rfl) dL_files_522 ⟨Nat.le_of_ble_eq_true rfl, Nat.le_of_ble_eq_true rfl⟩ (fun _ q37r => ?_)
                obtain ⟨a38, a38e⟩ : ∃ a38 : Int, a38 = zz_ab T s2.toNat 5 := ⟨_, rfl⟩
                have a38r : zz_R a38 := by rw [a38e]; exact q37r
                refine ge_top (y := a38) a38e.symm ?_
                clear q37r
                have a38q : a38 = T (61 + s2.toNat) 7 := by rw [a38e]; rfl
                refine ge_if_ne hC dL_files_525 (tgt := 532) (by decide) a38r (fun c39 => (by omega)) (fun c39 => ?_)
                refine ge_iconst hC dL_files_528 ?_
                refine ge_goto hC dL_files_529 (tgt := 591) (by decide) ?_
                exact ge_ireturn hC hr rfl hlk dL_files_591 (Nat.le_of_ble_eq_true rfl) ⟨rfl, T, V, rfl, zi_wide (Nat.le_add_right _ _) hI, by unfold zi_V; first | omega | (refine ⟨?_, ?_, ?_, ?_⟩ <;> omega)⟩
          · skip
            refine ge_aload_n hC dL_files_358 rfl (j := 4) rfl ?_
            refine ge_aload_n hC dL_files_359 rfl (j := 5) rfl ?_
            refine ge_bipush hC dL_files_360 rfl ?_
            refine ge_iload hC dL_files_362 (j := 3) rfl ?_
            refine ge_iconst hC dL_files_364 ?_
            refine ge_iconst hC dL_files_365 ?_
            refine ge_both (what := 14) (x := s2) (y := 0) (w := 0) (rest := []) hl9 hC hF (fun G' a' => (c_L_does_find l hl9 N0 G' Y a' T 0 0 s2 ⟨by omega, by omega⟩ hIC)) (by refine ⟨fun z9 => ⟨?_, ?_, ?_⟩, fun z9 => ⟨?_, ?_⟩, fun z9 => ?_⟩ <;> intro z8 <;> first | exact z8.elim | exact z9.elim | omega) (va_cwS 6 hts gL_files_L_both rfl rfl rfl (by decide +kernel) ⟨by decide, by decide⟩) rfl (Nat.le_of_ble_eq_true rfl) dL_files_366 ⟨Nat.le_of_ble_eq_true rfl, Nat.le_of_ble_eq_true rfl⟩ (fun r40 T41 r40r hw => ?_)
            rcases hw with ⟨r40e, hwF, hT⟩ | ⟨r40e, hwF, hT⟩ | ⟨r40e, hwF, hT⟩ | ⟨r40e, hwF, hT⟩
            · skip
              have hT1 : T41 = zz_u (zz_u T (61 + s2.toNat) 7 (zz_ft T (T (61 + s2.toNat) 0).toNat)) (61 + s2.toNat) 1 1 := hT
              obtain ⟨k1, k2, k3, k4, k5, k6⟩ := zk_find (k := s2.toNat) hI (by omega)
              rw [← hT1] at k1 k2 k3 k4 k5 k6
              have r40b := zz_ft_rng T (T (61 + s2.toNat) 0).toNat
              rw [← r40e] at k2 k5 r40b
              have k10 : T41 0 = T 0 := by rw [hT1, zz_u_off _ _ (by omega), zz_u_off _ _ (by omega)]
              have k1a : T41 0 3 = T 0 3 := by rw [k10]
              have k1b : T41 0 7 = T 0 7 := by rw [k10]
              have k1c : T41 0 9 = T 0 9 := by rw [k10]
              have k1d : T41 0 10 = T 0 10 := by rw [k10]
              have ICT41 : zz_IC T41 := zi_IC (by omega) k1
              refine ge_istore hC dL_files_369 (by decide) (lv' := [(9, zz_v r40), (8, zz_v a7), (7, zz_v a5), (6, zz_v s3), (5, zz_v s2), (0, .ref (a 0)), (1, .ref (a 77)), (2, .ref (nA.getD 0 0)), (3, zz_v x), (4, zz_v z)]) rfl ?_
              refine ge_iload hC dL_files_371 (j := 0) rfl ?_
              refine ge_ldc hC (n := -2000000003) k23 dL_files_373 ?_
              refine ge_icmp_ne hC dL_files_375 (tgt := 398) (by decide) r40r ⟨by decide, by decide⟩ (fun c42 => ?_) (fun c42 => (by omega))
              refine ge_iload hC dL_files_398 (j := 2) rfl ?_
              refine ge_if_ne hC dL_files_400 (tgt := 461) (by decide) a5r (fun c43 => (by omega)) (fun c43 => ?_)
              refine ge_iload hC dL_files_403 (j := 0) rfl ?_
              refine ge_aload_n hC dL_files_405 rfl (j := 5) rfl ?_
              refine ge_aload_n hC dL_files_406 rfl (j := 5) rfl ?_
              refine ge_iload hC dL_files_407 (j := 4) rfl ?_
              refine ge_iconst hC dL_files_409 ?_
              refine ge_ask (As := [zz_v s2, zz_v 1]) (rest := [.ref (a 0), zz_v r40]) hC hF (c_X3_about l hl9 N0 _ Y a T41 s2 1 ⟨by omega, by omega⟩ ⟨by decide, by decide⟩ ICT41) (by refine ⟨?_, ?_, ?_⟩ <;> first | omega | exact fun z => z) (cwV 2 hts gL_files_X3_about rfl rfl rfl (by decide +kernel) ⟨by decide, by decide⟩) rfl rfl (Nat.le_of_ble_eq_true rfl) dL_files_410 ⟨Nat.le_of_ble_eq_true rfl, Nat.le_of_ble_eq_true rfl⟩ (fun _ q44r => ?_)
              obtain ⟨a45, a45e⟩ : ∃ a45 : Int, a45 = zz_ab T41 s2.toNat 1 := ⟨_, rfl⟩
              have a45r : zz_R a45 := by rw [a45e]; exact q44r
              refine ge_top (y := a45) a45e.symm ?_
              clear q44r
              have a45q : a45 = T (61 + s2.toNat) 0 := by rw [a45e]; exact k4
              refine ge_ask (As := [zz_v a45]) (rest := [zz_v r40]) hC hF (c_X3_fault l hl9 N0 _ Y a T41 a45 a45r ICT41) (by refine ⟨?_, ?_, ?_⟩ <;> first | omega | exact fun z => z) (cwV 1 hts gL_files_X3_fault rfl rfl rfl (by decide +kernel) ⟨by decide, by decide⟩) rfl rfl (Nat.le_of_ble_eq_true rfl) dL_files_413 ⟨Nat.le_of_ble_eq_true rfl, Nat.le_of_ble_eq_true rfl⟩ (fun _ q46r => ?_)
              obtain ⟨a47, a47e⟩ : ∃ a47 : Int, a47 = zz_ft T41 a45.toNat := ⟨_, rfl⟩
              have a47r : zz_R a47 := by rw [a47e]; exact q46r
              refine ge_top (y := a47) a47e.symm ?_
              clear q46r
              have a47q : a47 = r40 := by rw [a47e, a45q]; exact k2
              refine ge_icmp_ne hC dL_files_416 (tgt := 461) (by decide) r40r a47r (fun c48 => (by omega)) (fun c48 => ?_)
              refine ge_aload_n hC dL_files_419 rfl (j := 5) rfl ?_
              refine ge_iload hC dL_files_420 (j := 4) rfl ?_
              refine ge_iconst hC dL_files_422 ?_
              refine ge_ask (As := [zz_v s2, zz_v 0]) (rest := []) hC hF (c_X3_about l hl9 N0 _ Y a T41 s2 0 ⟨by omega, by omega⟩ ⟨by decide, by decide⟩ ICT41) (by refine ⟨?_, ?_, ?_⟩ <;> first | omega | exact fun z => z) (cwV 2 hts gL_files_X3_about rfl rfl rfl (by decide +kernel) ⟨by decide, by decide⟩) rfl rfl (Nat.le_of_ble_eq_true rfl) dL_files_423 ⟨Nat.le_of_ble_eq_true rfl, Nat.le_of_ble_eq_true rfl⟩ (fun _ q49r => ?_)
              obtain ⟨a50, a50e⟩ : ∃ a50 : Int, a50 = zz_ab T41 s2.toNat 0 := ⟨_, rfl⟩
              have a50r : zz_R a50 := by rw [a50e]; exact q49r
              refine ge_top (y := a50) a50e.symm ?_
              clear q49r
              have a50q : a50 = 1 := by rw [a50e]; exact k3
              refine ge_iconst hC dL_files_426 ?_
              refine ge_icmp_ne hC dL_files_427 (tgt := 461) (by decide) a50r ⟨by decide, by decide⟩ (fun c51 => (by omega)) (fun c51 => ?_)
              refine ge_aload_n hC dL_files_430 rfl (j := 5) rfl ?_
              refine ge_iload hC dL_files_431 (j := 4) rfl ?_
              refine ge_iconst hC dL_files_433 ?_
              refine ge_ask (As := [zz_v s2, zz_v 5]) (rest := []) hC hF (c_X3_about l hl9 N0 _ Y a T41 s2 5 ⟨by omega, by omega⟩ ⟨by decide, by decide⟩ ICT41) (by refine ⟨?_, ?_, ?_⟩ <;> first | omega | exact fun z => z) (cwV 2 hts gL_files_X3_about rfl rfl rfl (by decide +kernel) ⟨by decide, by decide⟩) rfl rfl (Nat.le_of_ble_eq_true rfl) dL_files_434 ⟨Nat.le_of_ble_eq_true rfl, Nat.le_of_ble_eq_true rfl⟩ (fun _ q52r => ?_)
              obtain ⟨a53, a53e⟩ : ∃ a53 : Int, a53 = zz_ab T41 s2.toNat 5 := ⟨_, rfl⟩
              have a53r : zz_R a53 := by rw [a53e]; exact q52r
              refine ge_top (y := a53) a53e.symm ?_
              clear q52r
              have a53q : a53 = r40 := by rw [a53e]; exact k5
              refine ge_iload hC dL_files_437 (j := 0) rfl ?_
              refine ge_icmp_ne hC dL_files_439 (tgt := 461) (by decide) a53r r40r (fun c54 => (by omega)) (fun c54 => ?_)
              refine ge_aload_n hC dL_files_442 rfl (j := 5) rfl ?_
              refine ge_bipush hC dL_files_443 rfl ?_
              refine ge_iload hC dL_files_445 (j := 4) rfl ?_
              refine ge_iconst hC dL_files_447 ?_
              refine ge_iconst hC dL_files_448 ?_
              refine ge_callC (what := 14) (x := s2) (y := 0) (w := 0) (rest := []) hl9 hC hF (fun G' a' => (c_L_does_find l hl9 N0 G' Y a' T41 0 0 s2 ⟨by omega, by omega⟩ ICT41)) (vx_cwSW 5 hts gL_files_L_call rfl rfl rfl (by decide +kernel) ⟨by decide, by decide⟩) rfl (Nat.le_of_ble_eq_true rfl) dL_files_449 ⟨Nat.le_of_ble_eq_true rfl, Nat.le_of_ble_eq_true rfl⟩ (fun r55 T56 r55r hw => ?_)
              rcases hw with ⟨r55e, hwF, hT⟩ | ⟨r55e, hwF, hT⟩ | ⟨r55e, hwF, hT⟩ | ⟨r55e, hwF, hT⟩
              · exfalso; first | omega | exact hwF
              · exfalso; first | omega | exact hwF
              · exfalso; first | omega | exact hwF
              · skip
                rw [r55e, hT]
                refine ge_ldc hC (n := -2000000003) k23 dL_files_452 ?_
                refine ge_icmp_ne hC dL_files_454 (tgt := 461) (by decide) ⟨by decide, by decide⟩ ⟨by decide, by decide⟩ (fun c57 => (by omega)) (fun c57 => ?_)
                refine ge_iconst hC dL_files_457 ?_
                refine ge_goto hC dL_files_458 (tgt := 462) (by decide) ?_
                exact ge_ireturn hC hr rfl hlk dL_files_462 (Nat.le_of_ble_eq_true rfl) ⟨rfl, T41, V, rfl, zi_wide (Nat.le_add_right _ _) k1, by unfold zi_V; first | omega | (refine ⟨?_, ?_, ?_, ?_⟩ <;> omega)⟩
            · exfalso; first | omega | exact hwF
            · exfalso; first | omega | exact hwF
            · skip
              rw [r40e, hT]
              refine ge_istore hC dL_files_369 (by decide) (lv' := [(9, zz_v (-2000000003)), (8, zz_v a7), (7, zz_v a5), (6, zz_v s3), (5, zz_v s2), (0, .ref (a 0)), (1, .ref (a 77)), (2, .ref (nA.getD 0 0)), (3, zz_v x), (4, zz_v z)]) rfl ?_
              refine ge_iload hC dL_files_371 (j := 0) rfl ?_
              refine ge_ldc hC (n := -2000000003) k23 dL_files_373 ?_
              refine ge_icmp_ne hC dL_files_375 (tgt := 398) (by decide) ⟨by decide, by decide⟩ ⟨by decide, by decide⟩ (fun c58 => (by omega)) (fun c58 => ?_)
              refine ge_aload_n hC dL_files_378 rfl (j := 5) rfl ?_
              refine ge_iload hC dL_files_379 (j := 4) rfl ?_
              refine ge_iconst hC dL_files_381 ?_
              refine ge_ask (As := [zz_v s2, zz_v 0]) (rest := []) hC hF (c_X3_about l hl9 N0 _ Y a T s2 0 ⟨by omega, by omega⟩ ⟨by decide, by decide⟩ hIC) (by refine ⟨?_, ?_, ?_⟩ <;> first | omega | exact fun z => z) (cwV 2 hts gL_files_X3_about rfl rfl rfl (by decide +kernel) ⟨by decide, by decide⟩) rfl rfl (Nat.le_of_ble_eq_true rfl) dL_files_382 ⟨Nat.le_of_ble_eq_true rfl, Nat.le_of_ble_eq_true rfl⟩ (fun _ q59r => ?_)
              obtain ⟨a60, a60e⟩ : ∃ a60 : Int, a60 = zz_ab T s2.toNat 0 := ⟨_, rfl⟩
              have a60r : zz_R a60 := by rw [a60e]; exact q59r
              refine ge_top (y := a60) a60e.symm ?_
              clear q59r
              have a60q : a60 = a5 := by rw [a60e, a5e]
              refine ge_iload hC dL_files_385 (j := 2) rfl ?_
              refine ge_icmp_ne hC dL_files_387 (tgt := 394) (by decide) a60r a5r (fun c61 => (by omega)) (fun c61 => ?_)
              refine ge_iconst hC dL_files_390 ?_
              refine ge_goto hC dL_files_391 (tgt := 462) (by decide) ?_
              exact ge_ireturn hC hr rfl hlk dL_files_462 (Nat.le_of_ble_eq_true rfl) ⟨rfl, T, V, rfl, zi_wide (Nat.le_add_right _ _) hI, by unfold zi_V; first | omega | (refine ⟨?_, ?_, ?_, ?_⟩ <;> omega)⟩
        · skip
          refine ge_aload_n hC dL_files_280 rfl (j := 4) rfl ?_
          refine ge_aload_n hC dL_files_281 rfl (j := 5) rfl ?_
          refine ge_bipush hC dL_files_282 rfl ?_
          refine ge_iload hC dL_files_284 (j := 3) rfl ?_
          refine ge_iconst hC dL_files_286 ?_
          refine ge_iconst hC dL_files_287 ?_
          refine ge_both (what := 13) (x := s2) (y := 0) (w := 0) (rest := []) hl9 hC hF (fun G' a' => (c_L_does_hear l hl9 N0 G' Y a' T 0 0 s2 ⟨by omega, by omega⟩ hIC)) (by refine ⟨fun z9 => ⟨?_, ?_, ?_⟩, fun z9 => ⟨?_, ?_⟩, fun z9 => ?_⟩ <;> intro z8 <;> first | exact z8.elim | exact z9.elim | omega) (va_cwS 6 hts gL_files_L_both rfl rfl rfl (by decide +kernel) ⟨by decide, by decide⟩) rfl (Nat.le_of_ble_eq_true rfl) dL_files_288 ⟨Nat.le_of_ble_eq_true rfl, Nat.le_of_ble_eq_true rfl⟩ (fun r62 T63 r62r hw => ?_)
          rcases hw with ⟨r62e, hwF, hT⟩ | ⟨r62e, hwF, hT⟩ | ⟨r62e, hwF, hT⟩ | ⟨r62e, hwF, hT⟩
          · skip
            rw [r62e]
            have hT1 : T63 = zz_u T (61 + s2.toNat) 6 1 := hT
            have k1 := zk_hear (k := s2.toNat) hI (by omega)
            rw [← hT1] at k1
            have k6 : T63 (61 + s2.toNat) 6 = 1 := by rw [hT1, zz_u_same]
            have k4 : T63 (61 + s2.toNat) 4 = T (61 + s2.toNat) 4 := by rw [hT1, zz_u_ne _ _ (by omega)]
            have k10 : T63 0 = T 0 := by rw [hT1, zz_u_off _ _ (by omega)]
            have k1a : T63 0 3 = T 0 3 := by rw [k10]
            have k1b : T63 0 7 = T 0 7 := by rw [k10]
            have k1c : T63 0 9 = T 0 9 := by rw [k10]
            have k1d : T63 0 10 = T 0 10 := by rw [k10]
            have ICT63 : zz_IC T63 := zi_IC (by omega) k1
            refine ge_istore hC dL_files_291 (by decide) (lv' := [(9, zz_v 0), (8, zz_v a7), (7, zz_v a5), (6, zz_v s3), (5, zz_v s2), (0, .ref (a 0)), (1, .ref (a 77)), (2, .ref (nA.getD 0 0)), (3, zz_v x), (4, zz_v z)]) rfl ?_
            refine ge_iload hC dL_files_293 (j := 0) rfl ?_
            refine ge_ldc hC (n := -2000000003) k23 dL_files_295 ?_
            refine ge_icmp_eq hC dL_files_297 (tgt := 345) (by decide) ⟨by decide, by decide⟩ ⟨by decide, by decide⟩ (fun c64 => (by omega)) (fun c64 => ?_)
            refine ge_iload hC dL_files_300 (j := 0) rfl ?_
            refine ge_if_ne hC dL_files_302 (tgt := 349) (by decide) ⟨by decide, by decide⟩ (fun c65 => (by omega)) (fun c65 => ?_)
            refine ge_iload hC dL_files_305 (j := 2) rfl ?_
            refine ge_if_ne hC dL_files_307 (tgt := 349) (by decide) a5r (fun c66 => (by omega)) (fun c66 => ?_)
            refine ge_iload hC dL_files_310 (j := 1) rfl ?_
            refine ge_if_ne hC dL_files_312 (tgt := 349) (by decide) a7r (fun c67 => (by omega)) (fun c67 => ?_)
            refine ge_aload_n hC dL_files_315 rfl (j := 5) rfl ?_
            refine ge_bipush hC dL_files_316 rfl ?_
            refine ge_iload hC dL_files_318 (j := 4) rfl ?_
            refine ge_iconst hC dL_files_320 ?_
            refine ge_iconst hC dL_files_321 ?_
            refine ge_callC (what := 13) (x := s2) (y := 0) (w := 0) (rest := []) hl9 hC hF (fun G' a' => (c_L_does_hear l hl9 N0 G' Y a' T63 0 0 s2 ⟨by omega, by omega⟩ ICT63)) (vx_cwSW 5 hts gL_files_L_call rfl rfl rfl (by decide +kernel) ⟨by decide, by decide⟩) rfl (Nat.le_of_ble_eq_true rfl) dL_files_322 ⟨Nat.le_of_ble_eq_true rfl, Nat.le_of_ble_eq_true rfl⟩ (fun r68 T69 r68r hw => ?_)
            rcases hw with ⟨r68e, hwF, hT⟩ | ⟨r68e, hwF, hT⟩ | ⟨r68e, hwF, hT⟩ | ⟨r68e, hwF, hT⟩
            · exfalso; first | omega | exact hwF
            · exfalso; first | omega | exact hwF
            · exfalso; first | omega | exact hwF
            · skip
              rw [r68e, hT]
              refine ge_ldc hC (n := -2000000003) k23 dL_files_325 ?_
              refine ge_icmp_ne hC dL_files_327 (tgt := 349) (by decide) ⟨by decide, by decide⟩ ⟨by decide, by decide⟩ (fun c70 => (by omega)) (fun c70 => ?_)
              refine ge_aload_n hC dL_files_330 rfl (j := 5) rfl ?_
              refine ge_bipush hC dL_files_331 rfl ?_
              refine ge_iload hC dL_files_333 (j := 4) rfl ?_
              refine ge_iconst hC dL_files_335 ?_
              refine ge_iconst hC dL_files_336 ?_
              refine ge_callC (what := 11) (x := s2) (y := 0) (w := 0) (rest := []) hl9 hC hF (fun G' a' => (c_L_does_ask l hl9 N0 G' Y a' T63 0 0 s2 ⟨by omega, by omega⟩ ICT63)) (vx_cwSW 5 hts gL_files_L_call rfl rfl rfl (by decide +kernel) ⟨by decide, by decide⟩) rfl (Nat.le_of_ble_eq_true rfl) dL_files_337 ⟨Nat.le_of_ble_eq_true rfl, Nat.le_of_ble_eq_true rfl⟩ (fun r71 T72 r71r hw => ?_)
              rcases hw with ⟨r71e, hwF, hT⟩ | ⟨r71e, hwF, hT⟩ | ⟨r71e, hwF, hT⟩ | ⟨r71e, hwF, hT⟩
              · exfalso; first | omega | exact hwF
              · exfalso; first | omega | exact hwF
              · exfalso; first | omega | exact hwF
              · skip
                rw [r71e, hT]
                refine ge_ldc hC (n := -2000000003) k23 dL_files_340 ?_
                refine ge_icmp_ne hC dL_files_342 (tgt := 349) (by decide) ⟨by decide, by decide⟩ ⟨by decide, by decide⟩ (fun c73 => (by omega)) (fun c73 => ?_)
                refine ge_iconst hC dL_files_345 ?_
                refine ge_goto hC dL_files_346 (tgt := 350) (by decide) ?_
                exact ge_ireturn hC hr rfl hlk dL_files_350 (Nat.le_of_ble_eq_true rfl) ⟨rfl, T63, V, rfl, zi_wide (Nat.le_add_right _ _) k1, by unfold zi_V; first | omega | (refine ⟨?_, ?_, ?_, ?_⟩ <;> omega)⟩
          · exfalso; first | omega | exact hwF
          · exfalso; first | omega | exact hwF
          · skip
            rw [r62e, hT]
            refine ge_istore hC dL_files_291 (by decide) (lv' := [(9, zz_v (-2000000003)), (8, zz_v a7), (7, zz_v a5), (6, zz_v s3), (5, zz_v s2), (0, .ref (a 0)), (1, .ref (a 77)), (2, .ref (nA.getD 0 0)), (3, zz_v x), (4, zz_v z)]) rfl ?_
            refine ge_iload hC dL_files_293 (j := 0) rfl ?_
            refine ge_ldc hC (n := -2000000003) k23 dL_files_295 ?_
            refine ge_icmp_eq hC dL_files_297 (tgt := 345) (by decide) ⟨by decide, by decide⟩ ⟨by decide, by decide⟩ (fun c74 => ?_) (fun c74 => (by omega))
            refine ge_iconst hC dL_files_345 ?_
            refine ge_goto hC dL_files_346 (tgt := 350) (by decide) ?_
            exact ge_ireturn hC hr rfl hlk dL_files_350 (Nat.le_of_ble_eq_true rfl) ⟨rfl, T, V, rfl, zi_wide (Nat.le_add_right _ _) hI, by unfold zi_V; first | omega | (refine ⟨?_, ?_, ?_, ?_⟩ <;> omega)⟩
      · skip
        refine ge_aload_n hC dL_files_195 rfl (j := 4) rfl ?_
        refine ge_aload_n hC dL_files_196 rfl (j := 5) rfl ?_
        refine ge_bipush hC dL_files_197 rfl ?_
        refine ge_iload hC dL_files_199 (j := 3) rfl ?_
        refine ge_iconst hC dL_files_201 ?_
        refine ge_iconst hC dL_files_202 ?_
        refine ge_both (what := 12) (x := s2) (y := 0) (w := 0) (rest := []) hl9 hC hF (fun G' a' => (c_L_does_answer l hl9 N0 G' Y a' T 0 0 s2 ⟨by omega, by omega⟩ hIC)) (by refine ⟨fun z9 => ⟨?_, ?_, ?_⟩, fun z9 => ⟨?_, ?_⟩, fun z9 => ?_⟩ <;> intro z8 <;> first | exact z8.elim | exact z9.elim | omega) (va_cwS 6 hts gL_files_L_both rfl rfl rfl (by decide +kernel) ⟨by decide, by decide⟩) rfl (Nat.le_of_ble_eq_true rfl) dL_files_203 ⟨Nat.le_of_ble_eq_true rfl, Nat.le_of_ble_eq_true rfl⟩ (fun r75 T76 r75r hw => ?_)
        rcases hw with ⟨r75e, hwF, hT⟩ | ⟨r75e, hwF, hT⟩ | ⟨r75e, hwF, hT⟩ | ⟨r75e, hwF, hT⟩
        · skip
          have hT1 : T76 = zz_u T (61 + s2.toNat) 4 2 := hT
          obtain ⟨k1, k2, k3, k4⟩ := zk_answer (k := s2.toNat) hI (by omega) (by omega)
          rw [← hT1] at k1 k3 k4
          rw [← r75e] at k2
          have k10 : T76 0 = T 0 := by rw [hT1, zz_u_off _ _ (by omega)]
          have k1a : T76 0 3 = T 0 3 := by rw [k10]
          have k1b : T76 0 7 = T 0 7 := by rw [k10]
          have k1c : T76 0 9 = T 0 9 := by rw [k10]
          have k1d : T76 0 10 = T 0 10 := by rw [k10]
          have ICT76 : zz_IC T76 := zi_IC (by omega) k1
          refine ge_istore hC dL_files_206 (by decide) (lv' := [(9, zz_v r75), (8, zz_v a7), (7, zz_v a5), (6, zz_v s3), (5, zz_v s2), (0, .ref (a 0)), (1, .ref (a 77)), (2, .ref (nA.getD 0 0)), (3, zz_v x), (4, zz_v z)]) rfl ?_
          refine ge_iload hC dL_files_208 (j := 0) rfl ?_
          refine ge_ldc hC (n := -2000000003) k23 dL_files_210 ?_
          refine ge_icmp_ne hC dL_files_212 (tgt := 228) (by decide) r75r ⟨by decide, by decide⟩ (fun c77 => ?_) (fun c77 => (by omega))
          refine ge_iload hC dL_files_228 (j := 1) rfl ?_
          refine ge_iconst hC dL_files_230 ?_
          refine ge_icmp_ne hC dL_files_231 (tgt := 271) (by decide) a7r ⟨by decide, by decide⟩ (fun c78 => (by omega)) (fun c78 => ?_)
          refine ge_iload hC dL_files_234 (j := 0) rfl ?_
          refine ge_if_lt hC dL_files_236 (tgt := 271) (by decide) r75r (fun c79 => (by omega)) (fun c79 => ?_)
          refine ge_iload hC dL_files_239 (j := 0) rfl ?_
          refine ge_aload_n hC dL_files_241 rfl (j := 7) rfl ?_
          refine ge_iconst hC dL_files_242 ?_
          refine ge_iald hC hK (q := 0) (j := 3) hnA rfl rfl (by decide) dL_files_243 (fun _ => ?_)
          refine ge_top (y := T 0 10) hV.2.2.2 ?_
          refine ge_icmp_gt hC dL_files_244 (tgt := 271) (by decide) r75r ⟨by omega, by omega⟩ (fun c80 => (by omega)) (fun c80 => ?_)
          refine ge_aload_n hC dL_files_247 rfl (j := 5) rfl ?_
          refine ge_iload hC dL_files_248 (j := 4) rfl ?_
          refine ge_iconst hC dL_files_250 ?_
          refine ge_ask (As := [zz_v s2, zz_v 4]) (rest := []) hC hF (c_X3_about l hl9 N0 _ Y a T76 s2 4 ⟨by omega, by omega⟩ ⟨by decide, by decide⟩ ICT76) (by refine ⟨?_, ?_, ?_⟩ <;> first | omega | exact fun z => z) (cwV 2 hts gL_files_X3_about rfl rfl rfl (by decide +kernel) ⟨by decide, by decide⟩) rfl rfl (Nat.le_of_ble_eq_true rfl) dL_files_251 ⟨Nat.le_of_ble_eq_true rfl, Nat.le_of_ble_eq_true rfl⟩ (fun _ q81r => ?_)
          obtain ⟨a82, a82e⟩ : ∃ a82 : Int, a82 = zz_ab T76 s2.toNat 4 := ⟨_, rfl⟩
          have a82r : zz_R a82 := by rw [a82e]; exact q81r
          refine ge_top (y := a82) a82e.symm ?_
          clear q81r
          have a82q : a82 = 0 := by rw [a82e]; exact k3
          refine ge_if_ne hC dL_files_254 (tgt := 271) (by decide) a82r (fun c83 => (by omega)) (fun c83 => ?_)
          refine ge_aload_n hC dL_files_257 rfl (j := 5) rfl ?_
          refine ge_iload hC dL_files_258 (j := 4) rfl ?_
          refine ge_ask (As := [zz_v s2]) (rest := []) hC hF (c_X3_reminder l hl9 N0 _ Y a T76 s2 ⟨by omega, by omega⟩ ICT76) (by refine ⟨?_, ?_, ?_⟩ <;> first | omega | exact fun z => z) (cwV 1 hts gL_files_X3_reminder rfl rfl rfl (by decide +kernel) ⟨by decide, by decide⟩) rfl rfl (Nat.le_of_ble_eq_true rfl) dL_files_260 ⟨Nat.le_of_ble_eq_true rfl, Nat.le_of_ble_eq_true rfl⟩ (fun _ q84r => ?_)
          obtain ⟨a85, a85e⟩ : ∃ a85 : Int, a85 = zk_rem T76 s2.toNat := ⟨_, rfl⟩
          have a85r : zz_R a85 := by rw [a85e]; exact q84r
          refine ge_top (y := a85) a85e.symm ?_
          clear q84r
          have a85q : a85 = -1 := by rw [a85e]; exact k4
          refine ge_iconst hC dL_files_263 ?_
          refine ge_icmp_ne hC dL_files_264 (tgt := 271) (by decide) a85r ⟨by decide, by decide⟩ (fun c86 => (by omega)) (fun c86 => ?_)
          refine ge_iconst hC dL_files_267 ?_
          refine ge_goto hC dL_files_268 (tgt := 272) (by decide) ?_
          exact ge_ireturn hC hr rfl hlk dL_files_272 (Nat.le_of_ble_eq_true rfl) ⟨rfl, T76, V, rfl, zi_wide (Nat.le_add_right _ _) k1, by unfold zi_V; first | omega | (refine ⟨?_, ?_, ?_, ?_⟩ <;> omega)⟩
        · exfalso; first | omega | exact hwF
        · exfalso; first | omega | exact hwF
        · skip
          rw [r75e, hT]
          refine ge_istore hC dL_files_206 (by decide) (lv' := [(9, zz_v (-2000000003)), (8, zz_v a7), (7, zz_v a5), (6, zz_v s3), (5, zz_v s2), (0, .ref (a 0)), (1, .ref (a 77)), (2, .ref (nA.getD 0 0)), (3, zz_v x), (4, zz_v z)]) rfl ?_
          refine ge_iload hC dL_files_208 (j := 0) rfl ?_
          refine ge_ldc hC (n := -2000000003) k23 dL_files_210 ?_
          refine ge_icmp_ne hC dL_files_212 (tgt := 228) (by decide) ⟨by decide, by decide⟩ ⟨by decide, by decide⟩ (fun c87 => (by omega)) (fun c87 => ?_)
          refine ge_iload hC dL_files_215 (j := 1) rfl ?_
          refine ge_if_ne hC dL_files_217 (tgt := 224) (by decide) a7r (fun c88 => (by omega)) (fun c88 => ?_)
          refine ge_iconst hC dL_files_220 ?_
          refine ge_goto hC dL_files_221 (tgt := 272) (by decide) ?_
          exact ge_ireturn hC hr rfl hlk dL_files_272 (Nat.le_of_ble_eq_true rfl) ⟨rfl, T, V, rfl, zi_wide (Nat.le_add_right _ _) hI, by unfold zi_V; first | omega | (refine ⟨?_, ?_, ?_, ?_⟩ <;> omega)⟩
    · skip
      refine ge_aload_n hC dL_files_82 rfl (j := 4) rfl ?_
      refine ge_aload_n hC dL_files_83 rfl (j := 5) rfl ?_
      refine ge_bipush hC dL_files_84 rfl ?_
      refine ge_iload hC dL_files_86 (j := 3) rfl ?_
      refine ge_iconst hC dL_files_88 ?_
      refine ge_iconst hC dL_files_89 ?_
      refine ge_both (what := 11) (x := s2) (y := 0) (w := 0) (rest := []) hl9 hC hF (fun G' a' => (c_L_does_ask l hl9 N0 G' Y a' T 0 0 s2 ⟨by omega, by omega⟩ hIC)) (by refine ⟨fun z9 => ⟨?_, ?_, ?_⟩, fun z9 => ⟨?_, ?_⟩, fun z9 => ?_⟩ <;> intro z8 <;> first | exact z8.elim | exact z9.elim | omega) (va_cwS 6 hts gL_files_L_both rfl rfl rfl (by decide +kernel) ⟨by decide, by decide⟩) rfl (Nat.le_of_ble_eq_true rfl) dL_files_90 ⟨Nat.le_of_ble_eq_true rfl, Nat.le_of_ble_eq_true rfl⟩ (fun r89 T90 r89r hw => ?_)
      rcases hw with ⟨r89e, hwF, hT⟩ | ⟨r89e, hwF, hT⟩ | ⟨r89e, hwF, hT⟩ | ⟨r89e, hwF, hT⟩
      · skip
        have hT1 : T90 = zz_u (zz_u T (61 + s2.toNat) 4 1) (61 + s2.toNat) 5 (T 0 10) := hT
        obtain ⟨k1, k2, k3, k4, k5⟩ := zk_ask (k := s2.toNat) hI (by omega)
        rw [← hT1] at k1 k3 k4 k5
        rw [← r89e] at k2 k4
        have k10 : T90 0 = T 0 := by rw [hT1, zz_u_off _ _ (by omega), zz_u_off _ _ (by omega)]
        have k1a : T90 0 3 = T 0 3 := by rw [k10]
        have k1b : T90 0 7 = T 0 7 := by rw [k10]
        have k1c : T90 0 9 = T 0 9 := by rw [k10]
        have k1d : T90 0 10 = T 0 10 := by rw [k10]
        have ICT90 : zz_IC T90 := zi_IC (by omega) k1
        refine ge_istore hC dL_files_93 (by decide) (lv' := [(9, zz_v r89), (8, zz_v a7), (7, zz_v a5), (6, zz_v s3), (5, zz_v s2), (0, .ref (a 0)), (1, .ref (a 77)), (2, .ref (nA.getD 0 0)), (3, zz_v x), (4, zz_v z)]) rfl ?_
        refine ge_iload hC dL_files_95 (j := 0) rfl ?_
        refine ge_ldc hC (n := -2000000003) k23 dL_files_97 ?_
        refine ge_icmp_ne hC dL_files_99 (tgt := 122) (by decide) r89r ⟨by decide, by decide⟩ (fun c91 => ?_) (fun c91 => (by omega))
        refine ge_iload hC dL_files_122 (j := 2) rfl ?_
        refine ge_if_ne hC dL_files_124 (tgt := 186) (by decide) a5r (fun c92 => (by omega)) (fun c92 => ?_)
        refine ge_iload hC dL_files_127 (j := 1) rfl ?_
        refine ge_if_ne hC dL_files_129 (tgt := 186) (by decide) a7r (fun c93 => (by omega)) (fun c93 => ?_)
        refine ge_iload hC dL_files_132 (j := 0) rfl ?_
        refine ge_if_lt hC dL_files_134 (tgt := 186) (by decide) r89r (fun c94 => (by omega)) (fun c94 => ?_)
        refine ge_iload hC dL_files_137 (j := 0) rfl ?_
        refine ge_aload_n hC dL_files_139 rfl (j := 7) rfl ?_
        refine ge_iconst hC dL_files_140 ?_
        refine ge_iald hC hK (q := 0) (j := 0) hnA rfl rfl (by decide) dL_files_141 (fun _ => ?_)
        refine ge_top (y := T 0 3) hV.1 ?_
        refine ge_icmp_ge hC dL_files_142 (tgt := 186) (by decide) r89r ⟨by omega, by omega⟩ (fun c95 => (by omega)) (fun c95 => ?_)
        refine ge_aload_n hC dL_files_145 rfl (j := 5) rfl ?_
        refine ge_iload hC dL_files_146 (j := 4) rfl ?_
        refine ge_iconst hC dL_files_148 ?_
        refine ge_ask (As := [zz_v s2, zz_v 4]) (rest := []) hC hF (c_X3_about l hl9 N0 _ Y a T90 s2 4 ⟨by omega, by omega⟩ ⟨by decide, by decide⟩ ICT90) (by refine ⟨?_, ?_, ?_⟩ <;> first | omega | exact fun z => z) (cwV 2 hts gL_files_X3_about rfl rfl rfl (by decide +kernel) ⟨by decide, by decide⟩) rfl rfl (Nat.le_of_ble_eq_true rfl) dL_files_149 ⟨Nat.le_of_ble_eq_true rfl, Nat.le_of_ble_eq_true rfl⟩ (fun _ q96r => ?_)
        obtain ⟨a97, a97e⟩ : ∃ a97 : Int, a97 = zz_ab T90 s2.toNat 4 := ⟨_, rfl⟩
        have a97r : zz_R a97 := by rw [a97e]; exact q96r
        refine ge_top (y := a97) a97e.symm ?_
        clear q96r
        have a97q : a97 = 1 := by rw [a97e]; exact k3
        refine ge_iconst hC dL_files_152 ?_
        refine ge_icmp_ne hC dL_files_153 (tgt := 186) (by decide) a97r ⟨by decide, by decide⟩ (fun c98 => (by omega)) (fun c98 => ?_)
        refine ge_aload_n hC dL_files_156 rfl (j := 5) rfl ?_
        refine ge_iload hC dL_files_157 (j := 4) rfl ?_
        refine ge_ask (As := [zz_v s2]) (rest := []) hC hF (c_X3_reminder l hl9 N0 _ Y a T90 s2 ⟨by omega, by omega⟩ ICT90) (by refine ⟨?_, ?_, ?_⟩ <;> first | omega | exact fun z => z) (cwV 1 hts gL_files_X3_reminder rfl rfl rfl (by decide +kernel) ⟨by decide, by decide⟩) rfl rfl (Nat.le_of_ble_eq_true rfl) dL_files_159 ⟨Nat.le_of_ble_eq_true rfl, Nat.le_of_ble_eq_true rfl⟩ (fun _ q99r => ?_)
        obtain ⟨a100, a100e⟩ : ∃ a100 : Int, a100 = zk_rem T90 s2.toNat := ⟨_, rfl⟩
        have a100r : zz_R a100 := by rw [a100e]; exact q99r
        refine ge_top (y := a100) a100e.symm ?_
        clear q99r
        have a100q : a100 = r89 := by rw [a100e]; exact k4
        refine ge_iload hC dL_files_162 (j := 0) rfl ?_
        refine ge_icmp_ne hC dL_files_164 (tgt := 186) (by decide) a100r r89r (fun c101 => (by omega)) (fun c101 => ?_)
        refine ge_aload_n hC dL_files_167 rfl (j := 5) rfl ?_
        refine ge_bipush hC dL_files_168 rfl ?_
        refine ge_iload hC dL_files_170 (j := 4) rfl ?_
        refine ge_iconst hC dL_files_172 ?_
        refine ge_iconst hC dL_files_173 ?_
        refine ge_callC (what := 13) (x := s2) (y := 0) (w := 0) (rest := []) hl9 hC hF (fun G' a' => (c_L_does_hear l hl9 N0 G' Y a' T90 0 0 s2 ⟨by omega, by omega⟩ ICT90)) (vx_cwSW 5 hts gL_files_L_call rfl rfl rfl (by decide +kernel) ⟨by decide, by decide⟩) rfl (Nat.le_of_ble_eq_true rfl) dL_files_174 ⟨Nat.le_of_ble_eq_true rfl, Nat.le_of_ble_eq_true rfl⟩ (fun r102 T103 r102r hw => ?_)
        rcases hw with ⟨r102e, hwF, hT⟩ | ⟨r102e, hwF, hT⟩ | ⟨r102e, hwF, hT⟩ | ⟨r102e, hwF, hT⟩
        · exfalso; first | omega | exact hwF
        · exfalso; first | omega | exact hwF
        · exfalso; first | omega | exact hwF
        · skip
          rw [r102e, hT]
          refine ge_ldc hC (n := -2000000003) k23 dL_files_177 ?_
          refine ge_icmp_ne hC dL_files_179 (tgt := 186) (by decide) ⟨by decide, by decide⟩ ⟨by decide, by decide⟩ (fun c104 => (by omega)) (fun c104 => ?_)
          refine ge_iconst hC dL_files_182 ?_
          refine ge_goto hC dL_files_183 (tgt := 187) (by decide) ?_
          exact ge_ireturn hC hr rfl hlk dL_files_187 (Nat.le_of_ble_eq_true rfl) ⟨rfl, T90, V, rfl, zi_wide (Nat.le_add_right _ _) k1, by unfold zi_V; first | omega | (refine ⟨?_, ?_, ?_, ?_⟩ <;> omega)⟩
      · exfalso; first | omega | exact hwF
      · exfalso; first | omega | exact hwF
      · skip
        rw [r89e, hT]
        refine ge_istore hC dL_files_93 (by decide) (lv' := [(9, zz_v (-2000000003)), (8, zz_v a7), (7, zz_v a5), (6, zz_v s3), (5, zz_v s2), (0, .ref (a 0)), (1, .ref (a 77)), (2, .ref (nA.getD 0 0)), (3, zz_v x), (4, zz_v z)]) rfl ?_
        refine ge_iload hC dL_files_95 (j := 0) rfl ?_
        refine ge_ldc hC (n := -2000000003) k23 dL_files_97 ?_
        refine ge_icmp_ne hC dL_files_99 (tgt := 122) (by decide) ⟨by decide, by decide⟩ ⟨by decide, by decide⟩ (fun c105 => (by omega)) (fun c105 => ?_)
        refine ge_aload_n hC dL_files_102 rfl (j := 5) rfl ?_
        refine ge_iload hC dL_files_103 (j := 4) rfl ?_
        refine ge_iconst hC dL_files_105 ?_
        refine ge_ask (As := [zz_v s2, zz_v 4]) (rest := []) hC hF (c_X3_about l hl9 N0 _ Y a T s2 4 ⟨by omega, by omega⟩ ⟨by decide, by decide⟩ hIC) (by refine ⟨?_, ?_, ?_⟩ <;> first | omega | exact fun z => z) (cwV 2 hts gL_files_X3_about rfl rfl rfl (by decide +kernel) ⟨by decide, by decide⟩) rfl rfl (Nat.le_of_ble_eq_true rfl) dL_files_106 ⟨Nat.le_of_ble_eq_true rfl, Nat.le_of_ble_eq_true rfl⟩ (fun _ q106r => ?_)
        obtain ⟨a107, a107e⟩ : ∃ a107 : Int, a107 = zz_ab T s2.toNat 4 := ⟨_, rfl⟩
        have a107r : zz_R a107 := by rw [a107e]; exact q106r
        refine ge_top (y := a107) a107e.symm ?_
        clear q106r
        have a107q := zi_ab4 T s2.toNat
        rw [← a107e] at a107q
        refine ge_iload hC dL_files_109 (j := 1) rfl ?_
        refine ge_icmp_ne hC dL_files_111 (tgt := 118) (by decide) a107r a7r (fun c108 => (by omega)) (fun c108 => ?_)
        refine ge_iconst hC dL_files_114 ?_
        refine ge_goto hC dL_files_115 (tgt := 187) (by decide) ?_
        exact ge_ireturn hC hr rfl hlk dL_files_187 (Nat.le_of_ble_eq_true rfl) ⟨rfl, T, V, rfl, zi_wide (Nat.le_add_right _ _) hI, by unfold zi_V; first | omega | (refine ⟨?_, ?_, ?_, ?_⟩ <;> omega)⟩
  · skip
    refine ge_aload_n hC dL_files_6 rfl (j := 0) rfl ?_
    refine ge_bipush hC dL_files_7 rfl ?_
    refine ge_iconst hC dL_files_9 ?_
    refine ge_iconst hC dL_files_10 ?_
    refine ge_iconst hC dL_files_11 ?_
    refine ge_callC (what := 11) (x := 0) (y := 0) (w := 0) (rest := []) hl9 hC hF (fun G' a' => (c_L_does_ask l hl9 N0 G' Y a' T 0 0 0 ⟨by decide, by decide⟩ hIC)) (vx_cwSW 5 hts gL_files_L_call rfl rfl rfl (by decide +kernel) ⟨by decide, by decide⟩) rfl (Nat.le_of_ble_eq_true rfl) dL_files_12 ⟨Nat.le_of_ble_eq_true rfl, Nat.le_of_ble_eq_true rfl⟩ (fun r109 T110 r109r hw => ?_)
    rcases hw with ⟨r109e, hwF, hT⟩ | ⟨r109e, hwF, hT⟩ | ⟨r109e, hwF, hT⟩ | ⟨r109e, hwF, hT⟩
    · exfalso; first | omega | exact hwF
    · skip
      rw [r109e, hT]
      refine ge_ldc hC (n := -2000000001) k17 dL_files_15 ?_
      refine ge_icmp_ne hC dL_files_17 (tgt := 38) (by decide) ⟨by decide, by decide⟩ ⟨by decide, by decide⟩ (fun c111 => (by omega)) (fun c111 => ?_)
      refine ge_aload_n hC dL_files_20 rfl (j := 0) rfl ?_
      refine ge_bipush hC dL_files_21 rfl ?_
      refine ge_iconst hC dL_files_23 ?_
      refine ge_iconst hC dL_files_24 ?_
      refine ge_iconst hC dL_files_25 ?_
      refine ge_callC (what := 18) (x := 0) (y := 0) (w := 0) (rest := []) hl9 hC hF (fun G' a' => (c_L_does_reminder l hl9 N0 G' Y a' T 0 0 0 ⟨by decide, by decide⟩ hIC)) (vx_cwSW 5 hts gL_files_L_call rfl rfl rfl (by decide +kernel) ⟨by decide, by decide⟩) rfl (Nat.le_of_ble_eq_true rfl) dL_files_26 ⟨Nat.le_of_ble_eq_true rfl, Nat.le_of_ble_eq_true rfl⟩ (fun r112 T113 r112r hw => ?_)
      rcases hw with ⟨r112e, hwF, hT⟩ | ⟨r112e, hwF, hT⟩ | ⟨r112e, hwF, hT⟩ | ⟨r112e, hwF, hT⟩
      · exfalso; first | omega | exact hwF
      · skip
        rw [r112e, hT]
        refine ge_ldc hC (n := -2000000001) k17 dL_files_29 ?_
        refine ge_icmp_ne hC dL_files_31 (tgt := 38) (by decide) ⟨by decide, by decide⟩ ⟨by decide, by decide⟩ (fun c114 => (by omega)) (fun c114 => ?_)
        refine ge_iconst hC dL_files_34 ?_
        refine ge_goto hC dL_files_35 (tgt := 39) (by decide) ?_
        exact ge_ireturn hC hr rfl hlk dL_files_39 (Nat.le_of_ble_eq_true rfl) ⟨rfl, T, V, rfl, zi_wide (Nat.le_add_right _ _) hI, by unfold zi_V; first | omega | (refine ⟨?_, ?_, ?_, ?_⟩ <;> omega)⟩
      · exfalso; first | omega | exact hwF
      · exfalso; first | omega | exact hwF
    · exfalso; first | omega | exact hwF
    · exfalso; first | omega | exact hwF
