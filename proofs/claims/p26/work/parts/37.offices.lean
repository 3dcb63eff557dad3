abbrev rm_L_offices : Room := { frames := 11, cells := 60, slots := 360, locals := 228 }
set_option maxHeartbeats 4000000 in
set_option maxRecDepth 100000 in
theorem c_L_offices (l : Launch) (hl9 : l.stackTraces = false) (N0 : Nat) (G : zz_G) (Y : zz_Y) (a : Nat → Nat) (nA : List Nat) (T V : zz_S) (n : Nat) (x z : Int) (hx : zz_R x) (hz : zz_R z) (hnA : 0 < nA.length) (hn : n + 2 ≤ 512) (hI : zi_ T n) (hV : zi_V T V) : Cy_ l yL_offices wsL_offices rm_L_offices 60 [.ref (a 0), .ref (a 77), .ref (nA.getD 0 0), zz_v x, zz_v z] N0 G Y a nA (T, T, V) (zl_post (n + 2)) := by
  refine Cy_.of (cc := cL_offices) (maxL := 10) (ret := (some .boolean)) (by decide) rfl (Nat.le_of_ble_eq_true rfl) ?_
  intro p e s m args below meth c hC hts hr hlk hF
  have hK := hF.2.1
  have k20 : (Cond.constant RL 20 (Int32.ofInt (-2000000002))).before args s = true := hts _ (by decide +kernel)
  have k23 : (Cond.constant RL 23 (Int32.ofInt (-2000000003))).before args s = true := hts _ (by decide +kernel)
  have hIC : zz_IC T := zi_IC (by omega) hI
  obtain ⟨hA, hB, hCC, hD, hE, hFF, hG, hH⟩ := id hI
  have hd0 := hB.1
  have hd1 := hFF.1
  have hd2 := hH.1
  have hd3 : 0 ≤ T 0 10 ∧ T 0 10 ≤ 5000 := hCC
  have hdc := hD.1
  have hlc := hE.1
  obtain ⟨hV0, hV1, hV2, hV3⟩ := id hV
  refine ge_lveq (lv' := [(0, .ref (a 0)), (1, .ref (a 77)), (2, .ref (nA.getD 0 0)), (3, zz_v x), (4, zz_v z)]) rfl ?_
  refine ge_iload_n hC dL_offices_0 rfl (j := 3) rfl ?_
  refine ge_bipush hC dL_offices_1 rfl ?_
  refine ge_some (x := x) (n := 10) (rest := []) hC hF ⟨by omega, by omega⟩ (va_cwS 2 hts gL_offices_L_some rfl rfl rfl (by decide +kernel) ⟨by decide, by decide⟩) rfl (Nat.le_of_ble_eq_true rfl) dL_offices_3 ⟨Nat.le_of_ble_eq_true rfl, Nat.le_of_ble_eq_true rfl⟩ (fun s1 s1a s1b => ?_)
  refine ge_istore hC dL_offices_6 (by decide) (lv' := [(5, zz_v s1), (0, .ref (a 0)), (1, .ref (a 77)), (2, .ref (nA.getD 0 0)), (3, zz_v x), (4, zz_v z)]) rfl ?_
  refine ge_iload hC dL_offices_8 (j := 0) rfl ?_
  refine ge_iconst hC dL_offices_10 ?_
  refine ge_icmp_lt hC dL_offices_11 (tgt := 20) (by decide) ⟨by omega, by omega⟩ ⟨by decide, by decide⟩ (fun c2 => ?_) (fun c2 => ?_)
  · skip
    refine ge_aload_n hC dL_offices_20 rfl (j := 1) rfl ?_
    refine ge_aload_n hC dL_offices_21 rfl (j := 2) rfl ?_
    refine ge_iconst hC dL_offices_22 ?_
    refine ge_iload hC dL_offices_23 (j := 5) rfl ?_
    refine ge_aload_n hC dL_offices_25 rfl (j := 3) rfl ?_
    refine ge_iconst hC dL_offices_26 ?_
    refine ge_iald hC hK (q := 0) (j := 0) hnA rfl rfl (by decide) dL_offices_27 (fun _ => ?_)
    refine ge_top (y := T 0 3) hV.1 ?_
    refine ge_iconst hC dL_offices_28 ?_
    refine ge_iadd hC dL_offices_29 ?_
    refine ge_some (x := z) (n := (T 0 3) + 1) (rest := [zz_v 1, .ref (a 77), .ref (a 0)]) hC hF ⟨by omega, by omega⟩ (va_cwS 2 hts gL_offices_L_some rfl rfl rfl (by decide +kernel) ⟨by decide, by decide⟩) rfl (Nat.le_of_ble_eq_true rfl) dL_offices_30 ⟨Nat.le_of_ble_eq_true rfl, Nat.le_of_ble_eq_true rfl⟩ (fun s3 s3a s3b => ?_)
    refine ge_iconst hC dL_offices_33 ?_
    refine ge_isub hC dL_offices_34 ?_
    refine ge_iconst hC dL_offices_35 ?_
    refine ge_iconst hC dL_offices_36 ?_
    refine ge_both (what := 1) (x := s3 - 1) (y := 0) (w := 0) (rest := []) hl9 hC hF (fun G' a' => (c_L_does_office l hl9 N0 G' Y a' T 0 0 (s3 - 1) ⟨by omega, by omega⟩ hIC)) (by refine ⟨fun z9 => ⟨?_, ?_, ?_⟩, fun z9 => ⟨?_, ?_⟩, fun z9 => ?_⟩ <;> intro z8 <;> first | exact z8.elim | exact z9.elim | omega) (va_cwS 6 hts gL_offices_L_both rfl rfl rfl (by decide +kernel) ⟨by decide, by decide⟩) rfl (Nat.le_of_ble_eq_true rfl) dL_offices_37 ⟨Nat.le_of_ble_eq_true rfl, Nat.le_of_ble_eq_true rfl⟩ (fun r4 T5 r4r hw => ?_)
    rcases hw with ⟨r4e, hwF, hT⟩ | ⟨r4e, hwF, hT⟩ | ⟨r4e, hwF, hT⟩ | ⟨r4e, hwF, hT⟩
    · skip
      have hT2 : T5 = zk_oS T (s3 - 1) := hT
      obtain ⟨j1, j2, j3, j4, j5, j6⟩ := zk_office (x := s3 - 1) hI (by omega) (by omega)
      rw [← hT2] at j1 j2 j3 j4 j5 j6
      have ICT5 : zz_IC T5 := zi_IC (by omega) j1
      refine ge_istore hC dL_offices_40 (by decide) (lv' := [(6, zz_v r4), (5, zz_v s1), (0, .ref (a 0)), (1, .ref (a 77)), (2, .ref (nA.getD 0 0)), (3, zz_v x), (4, zz_v z)]) rfl ?_
      refine ge_aload_n hC dL_offices_42 rfl (j := 4) rfl ?_
      refine ge_iconst hC dL_offices_43 ?_
      refine ge_dup2 hC dL_offices_44 rfl rfl ?_
      refine ge_iald hC hK (q := 0) (j := 0) hnA rfl rfl (by decide) dL_offices_45 (fun _ => ?_)
      refine ge_top (y := T 0 3) hV.1 ?_
      refine ge_iload hC dL_offices_46 (j := 0) rfl ?_
      refine ge_if_lt hC dL_offices_48 (tgt := 55) (by decide) r4r (fun c6 => (by omega)) (fun c6 => ?_)
      refine ge_iconst hC dL_offices_51 ?_
      refine ge_goto hC dL_offices_52 (tgt := 56) (by decide) ?_
      refine ge_iadd hC dL_offices_56 ?_
      refine ge_iast hC hK (q := 0) (j := 0) hnA rfl rfl (by decide) ⟨by omega, by omega⟩ dL_offices_57 ?_
      obtain ⟨V7, hV7⟩ : ∃ V7 : zz_S, V7 = zz_u V 0 0 ((T 0 3) + 1) := ⟨_, rfl⟩
      refine ge_eq (U' := (T5, T5, V7)) (by rw [hV7]) ?_
      have dV7_0 : V7 0 0 = (T 0 3) + 1 := by rw [hV7, zz_u_same]
      have dV7_1 : V7 0 1 = T 0 7 := by rw [hV7, zz_u_ne _ _ (by omega)]; exact hV.2.1
      have dV7_2 : V7 0 2 = T 0 9 := by rw [hV7, zz_u_ne _ _ (by omega)]; exact hV.2.2.1
      have dV7_3 : V7 0 3 = T 0 10 := by rw [hV7, zz_u_ne _ _ (by omega)]; exact hV.2.2.2
      clear hV7
      refine ge_iload hC dL_offices_58 (j := 0) rfl ?_
      refine ge_ldc hC (n := -2000000003) k23 dL_offices_60 ?_
      refine ge_icmp_ne hC dL_offices_62 (tgt := 81) (by decide) r4r ⟨by decide, by decide⟩ (fun c8 => ?_) (fun c8 => (by omega))
      refine ge_iload hC dL_offices_81 (j := 0) rfl ?_
      refine ge_aload_n hC dL_offices_83 rfl (j := 4) rfl ?_
      refine ge_iconst hC dL_offices_84 ?_
      refine ge_iald hC hK (q := 0) (j := 0) hnA rfl rfl (by decide) dL_offices_85 (fun _ => ?_)
      refine ge_top (y := (T 0 3) + 1) dV7_0 ?_
      refine ge_iconst hC dL_offices_86 ?_
      refine ge_isub hC dL_offices_87 ?_
      refine ge_icmp_ne hC dL_offices_88 (tgt := 109) (by decide) r4r ⟨by omega, by omega⟩ (fun c9 => (by omega)) (fun c9 => ?_)
      refine ge_aload_n hC dL_offices_91 rfl (j := 2) rfl ?_
      refine ge_iload hC dL_offices_92 (j := 0) rfl ?_
      refine ge_aload_n hC dL_offices_94 rfl (j := 4) rfl ?_
      refine ge_iconst hC dL_offices_95 ?_
      refine ge_iald hC hK (q := 0) (j := 3) hnA rfl rfl (by decide) dL_offices_96 (fun _ => ?_)
      refine ge_top (y := T 0 10) dV7_3 ?_
      refine ge_ask (As := [zz_v r4, zz_v (T 0 10)]) (rest := []) hC hF (c_X3_whose l hl9 N0 _ Y a T5 r4 (T 0 10) r4r ⟨by omega, by omega⟩ ICT5) (by refine ⟨?_, ?_, ?_⟩ <;> first | omega | exact fun z => z) (cwV 2 hts gL_offices_X3_whose rfl rfl rfl (by decide +kernel) ⟨by decide, by decide⟩) rfl rfl (Nat.le_of_ble_eq_true rfl) dL_offices_97 ⟨Nat.le_of_ble_eq_true rfl, Nat.le_of_ble_eq_true rfl⟩ (fun _ q10r => ?_)
      obtain ⟨a11, a11e⟩ : ∃ a11 : Int, a11 = zi_wh T5 (T 0 10) r4 := ⟨_, rfl⟩
      have a11r : zz_R a11 := by rw [a11e]; exact q10r
      refine ge_top (y := a11) a11e.symm ?_
      clear q10r
      have a11q : a11 = r4 := by rw [a11e, r4e]; exact j2
      refine ge_iload hC dL_offices_100 (j := 0) rfl ?_
      refine ge_icmp_ne hC dL_offices_102 (tgt := 109) (by decide) a11r r4r (fun c12 => (by omega)) (fun c12 => ?_)
      refine ge_iconst hC dL_offices_105 ?_
      refine ge_goto hC dL_offices_106 (tgt := 110) (by decide) ?_
      exact ge_ireturn hC hr rfl hlk dL_offices_110 (Nat.le_of_ble_eq_true rfl) ⟨rfl, T5, V7, rfl, zi_wide (Nat.le_add_right _ _) j1, by unfold zi_V; first | omega | (refine ⟨?_, ?_, ?_, ?_⟩ <;> omega)⟩
    · exfalso; first | omega | exact hwF
    · exfalso; first | omega | exact hwF
    · skip
      rw [r4e, hT]
      refine ge_istore hC dL_offices_40 (by decide) (lv' := [(6, zz_v (-2000000003)), (5, zz_v s1), (0, .ref (a 0)), (1, .ref (a 77)), (2, .ref (nA.getD 0 0)), (3, zz_v x), (4, zz_v z)]) rfl ?_
      refine ge_aload_n hC dL_offices_42 rfl (j := 4) rfl ?_
      refine ge_iconst hC dL_offices_43 ?_
      refine ge_dup2 hC dL_offices_44 rfl rfl ?_
      refine ge_iald hC hK (q := 0) (j := 0) hnA rfl rfl (by decide) dL_offices_45 (fun _ => ?_)
      refine ge_top (y := T 0 3) hV.1 ?_
      refine ge_iload hC dL_offices_46 (j := 0) rfl ?_
      refine ge_if_lt hC dL_offices_48 (tgt := 55) (by decide) ⟨by decide, by decide⟩ (fun c13 => ?_) (fun c13 => (by omega))
      refine ge_iconst hC dL_offices_55 ?_
      refine ge_iadd hC dL_offices_56 ?_
      refine ge_iast hC hK (q := 0) (j := 0) hnA rfl rfl (by decide) ⟨by omega, by omega⟩ dL_offices_57 ?_
      obtain ⟨V14, hV14⟩ : ∃ V14 : zz_S, V14 = zz_u V 0 0 ((T 0 3) + 0) := ⟨_, rfl⟩
      refine ge_eq (U' := (T, T, V14)) (by rw [hV14]) ?_
      have dV14_0 : V14 0 0 = (T 0 3) + 0 := by rw [hV14, zz_u_same]
      have dV14_1 : V14 0 1 = T 0 7 := by rw [hV14, zz_u_ne _ _ (by omega)]; exact hV.2.1
      have dV14_2 : V14 0 2 = T 0 9 := by rw [hV14, zz_u_ne _ _ (by omega)]; exact hV.2.2.1
      have dV14_3 : V14 0 3 = T 0 10 := by rw [hV14, zz_u_ne _ _ (by omega)]; exact hV.2.2.2
      clear hV14
      refine ge_iload hC dL_offices_58 (j := 0) rfl ?_
      refine ge_ldc hC (n := -2000000003) k23 dL_offices_60 ?_
      refine ge_icmp_ne hC dL_offices_62 (tgt := 81) (by decide) ⟨by decide, by decide⟩ ⟨by decide, by decide⟩ (fun c15 => (by omega)) (fun c15 => ?_)
      refine ge_aload_n hC dL_offices_65 rfl (j := 4) rfl ?_
      refine ge_iconst hC dL_offices_66 ?_
      refine ge_iald hC hK (q := 0) (j := 0) hnA rfl rfl (by decide) dL_offices_67 (fun _ => ?_)
      refine ge_top (y := (T 0 3) + 0) dV14_0 ?_
      refine ge_bipush hC dL_offices_68 rfl ?_
      refine ge_icmp_ne hC dL_offices_70 (tgt := 77) (by decide) ⟨by omega, by omega⟩ ⟨by decide, by decide⟩ (fun c16 => (by omega)) (fun c16 => ?_)
      refine ge_iconst hC dL_offices_73 ?_
      refine ge_goto hC dL_offices_74 (tgt := 110) (by decide) ?_
      exact ge_ireturn hC hr rfl hlk dL_offices_110 (Nat.le_of_ble_eq_true rfl) ⟨rfl, T, V14, rfl, zi_wide (Nat.le_add_right _ _) hI, by unfold zi_V; first | omega | (refine ⟨?_, ?_, ?_, ?_⟩ <;> omega)⟩
  · skip
    refine ge_aload_n hC dL_offices_14 rfl (j := 3) rfl ?_
    refine ge_iconst hC dL_offices_15 ?_
    refine ge_iald hC hK (q := 0) (j := 0) hnA rfl rfl (by decide) dL_offices_16 (fun _ => ?_)
    refine ge_top (y := T 0 3) hV.1 ?_
    refine ge_if_ne hC dL_offices_17 (tgt := 111) (by decide) ⟨by omega, by omega⟩ (fun c17 => ?_) (fun c17 => ?_)
    · skip
      refine ge_iload hC dL_offices_111 (j := 5) rfl ?_
      refine ge_aload_n hC dL_offices_113 rfl (j := 3) rfl ?_
      refine ge_iconst hC dL_offices_114 ?_
      refine ge_iald hC hK (q := 0) (j := 0) hnA rfl rfl (by decide) dL_offices_115 (fun _ => ?_)
      refine ge_top (y := T 0 3) hV.1 ?_
      refine ge_some (x := z) (n := T 0 3) (rest := []) hC hF ⟨by omega, by omega⟩ (va_cwS 2 hts gL_offices_L_some rfl rfl rfl (by decide +kernel) ⟨by decide, by decide⟩) rfl (Nat.le_of_ble_eq_true rfl) dL_offices_116 ⟨Nat.le_of_ble_eq_true rfl, Nat.le_of_ble_eq_true rfl⟩ (fun s18 s18a s18b => ?_)
      refine ge_istore hC dL_offices_119 (by decide) (lv' := [(6, zz_v s18), (5, zz_v s1), (0, .ref (a 0)), (1, .ref (a 77)), (2, .ref (nA.getD 0 0)), (3, zz_v x), (4, zz_v z)]) rfl ?_
      refine ge_iload hC dL_offices_121 (j := 1) rfl ?_
      refine ge_bipush hC dL_offices_123 rfl ?_
      refine ge_icmp_ge hC dL_offices_125 (tgt := 251) (by decide) ⟨by omega, by omega⟩ ⟨by decide, by decide⟩ (fun c19 => ?_) (fun c19 => ?_)
      · skip
        refine ge_iload hC dL_offices_251 (j := 6) rfl ?_
        refine ge_iconst hC dL_offices_253 ?_
        refine ge_ishrX hC dL_offices_254 (fun z20 z20r => ?_)
        obtain ⟨z20a, z20b⟩ := id z20r
        refine ge_bipush hC dL_offices_255 rfl ?_
        refine ge_some (x := z20) (n := 101) (rest := []) hC hF ⟨by omega, by omega⟩ (va_cwS 2 hts gL_offices_L_some rfl rfl rfl (by decide +kernel) ⟨by decide, by decide⟩) rfl (Nat.le_of_ble_eq_true rfl) dL_offices_257 ⟨Nat.le_of_ble_eq_true rfl, Nat.le_of_ble_eq_true rfl⟩ (fun s21 s21a s21b => ?_)
        refine ge_istore hC dL_offices_260 (by decide) (lv' := [(7, zz_v s21), (6, zz_v s18), (5, zz_v s1), (0, .ref (a 0)), (1, .ref (a 77)), (2, .ref (nA.getD 0 0)), (3, zz_v x), (4, zz_v z)]) rfl ?_
        refine ge_iload hC dL_offices_262 (j := 7) rfl ?_
        refine ge_iconst hC dL_offices_264 ?_
        refine ge_some (x := z) (n := 4) (rest := []) hC hF ⟨by omega, by omega⟩ (va_cwS 2 hts gL_offices_L_some rfl rfl rfl (by decide +kernel) ⟨by decide, by decide⟩) rfl (Nat.le_of_ble_eq_true rfl) dL_offices_265 ⟨Nat.le_of_ble_eq_true rfl, Nat.le_of_ble_eq_true rfl⟩ (fun s22 s22a s22b => ?_)
        refine ge_istore hC dL_offices_268 (by decide) (lv' := [(8, zz_v s22), (7, zz_v s21), (6, zz_v s18), (5, zz_v s1), (0, .ref (a 0)), (1, .ref (a 77)), (2, .ref (nA.getD 0 0)), (3, zz_v x), (4, zz_v z)]) rfl ?_
        refine ge_aload_n hC dL_offices_270 rfl (j := 4) rfl ?_
        refine ge_aload_n hC dL_offices_271 rfl (j := 5) rfl ?_
        refine ge_iconst hC dL_offices_272 ?_
        refine ge_iload hC dL_offices_273 (j := 0) rfl ?_
        refine ge_iload hC dL_offices_275 (j := 1) rfl ?_
        refine ge_iconst hC dL_offices_277 ?_
        refine ge_both (what := 4) (x := s22) (y := s21) (w := 0) (rest := []) hl9 hC hF (fun G' a' => (c_L_does_limit l hl9 N0 G' Y a' T 0 s22 s21 ⟨by omega, by omega⟩ ⟨by omega, by omega⟩ (by omega) hIC)) (by refine ⟨fun z9 => ⟨?_, ?_, ?_⟩, fun z9 => ⟨?_, ?_⟩, fun z9 => ?_⟩ <;> intro z8 <;> first | exact z8.elim | exact z9.elim | omega) (va_cwS 6 hts gL_offices_L_both rfl rfl rfl (by decide +kernel) ⟨by decide, by decide⟩) rfl (Nat.le_of_ble_eq_true rfl) dL_offices_278 ⟨Nat.le_of_ble_eq_true rfl, Nat.le_of_ble_eq_true rfl⟩ (fun r23 T24 r23r hw => ?_)
        rcases hw with ⟨r23e, hwF, hT⟩ | ⟨r23e, hwF, hT⟩ | ⟨r23e, hwF, hT⟩ | ⟨r23e, hwF, hT⟩
        · skip
          have hT1 : T24 = zk_lS T s22 s21 := hT
          obtain ⟨k11, k12, k14⟩ := zk_limit (x := s22) (y := s21) hI (by omega) (by omega) (by omega)
          rw [← hT1] at k11 k14
          have k10 : T24 0 = T 0 := by rw [hT1]; exact zk_l0 T s22 s21
          have k1a : T24 0 3 = T 0 3 := by rw [k10]
          have k1b : T24 0 7 = T 0 7 := by rw [k10]
          have k1c : T24 0 9 = T 0 9 := by rw [k10]
          have k1d : T24 0 10 = T 0 10 := by rw [k10]
          have ICT24 : zz_IC T24 := zi_IC (by omega) k11
          have k1e := k11.2.2.2.2.1.1
          refine ge_istore hC dL_offices_281 (by decide) (lv' := [(9, zz_v r23), (8, zz_v s22), (7, zz_v s21), (6, zz_v s18), (5, zz_v s1), (0, .ref (a 0)), (1, .ref (a 77)), (2, .ref (nA.getD 0 0)), (3, zz_v x), (4, zz_v z)]) rfl ?_
          refine ge_iload hC dL_offices_283 (j := 0) rfl ?_
          refine ge_if_lt hC dL_offices_285 (tgt := 315) (by decide) r23r (fun c25 => (by omega)) (fun c25 => ?_)
          refine ge_iload hC dL_offices_288 (j := 0) rfl ?_
          refine ge_bipush hC dL_offices_290 rfl ?_
          refine ge_icmp_gt hC dL_offices_292 (tgt := 315) (by decide) r23r ⟨by decide, by decide⟩ (fun c26 => (by omega)) (fun c26 => ?_)
          refine ge_aload_n hC dL_offices_295 rfl (j := 5) rfl ?_
          refine ge_aload_n hC dL_offices_296 rfl (j := 6) rfl ?_
          refine ge_iconst hC dL_offices_297 ?_
          refine ge_iload hC dL_offices_298 (j := 1) rfl ?_
          refine ge_iload hC dL_offices_300 (j := 2) rfl ?_
          refine ge_iconst hC dL_offices_302 ?_
          refine ge_both (what := 4) (x := s22) (y := s21) (w := 0) (rest := []) hl9 hC hF (fun G' a' => (c_L_does_limit l hl9 N0 G' Y a' T24 0 s22 s21 ⟨by omega, by omega⟩ ⟨by omega, by omega⟩ (by omega) ICT24)) (by refine ⟨fun z9 => ⟨?_, ?_, ?_⟩, fun z9 => ⟨?_, ?_⟩, fun z9 => ?_⟩ <;> intro z8 <;> first | exact z8.elim | exact z9.elim | omega) (va_cwS 6 hts gL_offices_L_both rfl rfl rfl (by decide +kernel) ⟨by decide, by decide⟩) rfl (Nat.le_of_ble_eq_true rfl) dL_offices_303 ⟨Nat.le_of_ble_eq_true rfl, Nat.le_of_ble_eq_true rfl⟩ (fun r27 T28 r27r hw => ?_)
          rcases hw with ⟨r27e, hwF, hT⟩ | ⟨r27e, hwF, hT⟩ | ⟨r27e, hwF, hT⟩ | ⟨r27e, hwF, hT⟩
          · skip
            have hT2 : T28 = zk_lS T24 s22 s21 := hT
            obtain ⟨k21, k22, k24⟩ := zk_limit (x := s22) (y := s21) k11 (by omega) (by omega) (by omega)
            rw [← hT2] at k21 k24
            have k20 : T28 0 = T24 0 := by rw [hT2]; exact zk_l0 T24 s22 s21
            have k2a : T28 0 3 = T24 0 3 := by rw [k20]
            have k2b : T28 0 7 = T24 0 7 := by rw [k20]
            have k2c : T28 0 9 = T24 0 9 := by rw [k20]
            have k2d : T28 0 10 = T24 0 10 := by rw [k20]
            have ICT28 : zz_IC T28 := zi_IC (by omega) k21
            have k2e := k21.2.2.2.2.1.1
            have k14q : r27 = s21 := by rw [r27e, k1d]; exact k14
            refine ge_iload hC dL_offices_306 (j := 2) rfl ?_
            refine ge_icmp_ne hC dL_offices_308 (tgt := 315) (by decide) r27r ⟨by omega, by omega⟩ (fun c29 => (by omega)) (fun c29 => ?_)
            refine ge_iconst hC dL_offices_311 ?_
            refine ge_goto hC dL_offices_312 (tgt := 316) (by decide) ?_
            exact ge_ireturn hC hr rfl hlk dL_offices_316 (Nat.le_of_ble_eq_true rfl) ⟨rfl, T28, V, rfl, k21, by unfold zi_V; first | omega | (refine ⟨?_, ?_, ?_, ?_⟩ <;> omega)⟩
          · exfalso; first | omega | exact hwF
          · exfalso; first | omega | exact hwF
          · exfalso; first | omega | exact hwF
        · exfalso; first | omega | exact hwF
        · exfalso; first | omega | exact hwF
        · exfalso; first | omega | exact hwF
      · skip
        refine ge_iload hC dL_offices_128 (j := 6) rfl ?_
        refine ge_iconst hC dL_offices_130 ?_
        refine ge_ishrX hC dL_offices_131 (fun z30 z30r => ?_)
        obtain ⟨z30a, z30b⟩ := id z30r
        refine ge_aload_n hC dL_offices_132 rfl (j := 4) rfl ?_
        refine ge_iconst hC dL_offices_133 ?_
        refine ge_iald hC hK (q := 0) (j := 0) hnA rfl rfl (by decide) dL_offices_134 (fun _ => ?_)
        refine ge_top (y := T 0 3) hV.1 ?_
        refine ge_iconst hC dL_offices_135 ?_
        refine ge_iadd hC dL_offices_136 ?_
        refine ge_some (x := z30) (n := (T 0 3) + 1) (rest := []) hC hF ⟨by omega, by omega⟩ (va_cwS 2 hts gL_offices_L_some rfl rfl rfl (by decide +kernel) ⟨by decide, by decide⟩) rfl (Nat.le_of_ble_eq_true rfl) dL_offices_137 ⟨Nat.le_of_ble_eq_true rfl, Nat.le_of_ble_eq_true rfl⟩ (fun s31 s31a s31b => ?_)
        refine ge_iconst hC dL_offices_140 ?_
        refine ge_isub hC dL_offices_141 ?_
        refine ge_istore hC dL_offices_142 (by decide) (lv' := [(7, zz_v (s31 - 1)), (6, zz_v s18), (5, zz_v s1), (0, .ref (a 0)), (1, .ref (a 77)), (2, .ref (nA.getD 0 0)), (3, zz_v x), (4, zz_v z)]) rfl ?_
        refine ge_aload_n hC dL_offices_144 rfl (j := 3) rfl ?_
        refine ge_aload_n hC dL_offices_145 rfl (j := 4) rfl ?_
        refine ge_iconst hC dL_offices_146 ?_
        refine ge_iload hC dL_offices_147 (j := 1) rfl ?_
        refine ge_iload hC dL_offices_149 (j := 0) rfl ?_
        refine ge_iconst hC dL_offices_151 ?_
        refine ge_both (what := 2) (x := s18) (y := s31 - 1) (w := 0) (rest := []) hl9 hC hF (fun G' a' => (c_L_does_delegate l hl9 N0 G' Y a' T 0 s18 (s31 - 1) ⟨by omega, by omega⟩ ⟨by omega, by omega⟩ (by omega) hIC)) (by refine ⟨fun z9 => ⟨?_, ?_, ?_⟩, fun z9 => ⟨?_, ?_⟩, fun z9 => ?_⟩ <;> intro z8 <;> first | exact z8.elim | exact z9.elim | omega) (va_cwS 6 hts gL_offices_L_both rfl rfl rfl (by decide +kernel) ⟨by decide, by decide⟩) rfl (Nat.le_of_ble_eq_true rfl) dL_offices_152 ⟨Nat.le_of_ble_eq_true rfl, Nat.le_of_ble_eq_true rfl⟩ (fun r32 T33 r32r hw => ?_)
        rcases hw with ⟨r32e, hwF, hT⟩ | ⟨r32e, hwF, hT⟩ | ⟨r32e, hwF, hT⟩ | ⟨r32e, hwF, hT⟩
        · skip
          have hT1 : T33 = zk_dS T s18 (s31 - 1) := hT
          obtain ⟨k11, k12, k13, k14, k15⟩ := zk_delegate (x := s18) (y := (s31 - 1)) hI (by omega) (by omega) (by omega)
          rw [← hT1] at k11 k13 k14 k15
          have k10 : T33 0 = T 0 := by rw [hT1]; exact zk_d0 T s18 (s31 - 1)
          have k1a : T33 0 3 = T 0 3 := by rw [k10]
          have k1b : T33 0 7 = T 0 7 := by rw [k10]
          have k1c : T33 0 9 = T 0 9 := by rw [k10]
          have k1d : T33 0 10 = T 0 10 := by rw [k10]
          have ICT33 : zz_IC T33 := zi_IC (by omega) k11
          have k1e := k11.2.2.2.1.1
          refine ge_istore hC dL_offices_155 (by decide) (lv' := [(8, zz_v r32), (7, zz_v (s31 - 1)), (6, zz_v s18), (5, zz_v s1), (0, .ref (a 0)), (1, .ref (a 77)), (2, .ref (nA.getD 0 0)), (3, zz_v x), (4, zz_v z)]) rfl ?_
          refine ge_iload hC dL_offices_157 (j := 0) rfl ?_
          refine ge_ldc hC (n := -2000000002) k20 dL_offices_159 ?_
          refine ge_icmp_ne hC dL_offices_161 (tgt := 177) (by decide) r32r ⟨by decide, by decide⟩ (fun c34 => ?_) (fun c34 => (by omega))
          refine ge_aload_n hC dL_offices_177 rfl (j := 4) rfl ?_
          refine ge_iload hC dL_offices_178 (j := 2) rfl ?_
          refine ge_aload_n hC dL_offices_180 rfl (j := 6) rfl ?_
          refine ge_iconst hC dL_offices_181 ?_
          refine ge_iald hC hK (q := 0) (j := 3) hnA rfl rfl (by decide) dL_offices_182 (fun _ => ?_)
          refine ge_top (y := T 0 10) hV.2.2.2 ?_
          refine ge_ask (As := [zz_v s18, zz_v (T 0 10)]) (rest := []) hC hF (c_X3_whose l hl9 N0 _ Y a T33 s18 (T 0 10) ⟨by omega, by omega⟩ ⟨by omega, by omega⟩ ICT33) (by refine ⟨?_, ?_, ?_⟩ <;> first | omega | exact fun z => z) (cwV 2 hts gL_offices_X3_whose rfl rfl rfl (by decide +kernel) ⟨by decide, by decide⟩) rfl rfl (Nat.le_of_ble_eq_true rfl) dL_offices_183 ⟨Nat.le_of_ble_eq_true rfl, Nat.le_of_ble_eq_true rfl⟩ (fun _ q35r => ?_)
          obtain ⟨a36, a36e⟩ : ∃ a36 : Int, a36 = zi_wh T33 (T 0 10) s18 := ⟨_, rfl⟩
          have a36r : zz_R a36 := by rw [a36e]; exact q35r
          refine ge_top (y := a36) a36e.symm ?_
          clear q35r
          have a36q : (s31 - 1) = -1 → a36 = s18 := fun z => by rw [a36e]; exact k13 z
          refine ge_istore hC dL_offices_186 (by decide) (lv' := [(9, zz_v a36), (8, zz_v r32), (7, zz_v (s31 - 1)), (6, zz_v s18), (5, zz_v s1), (0, .ref (a 0)), (1, .ref (a 77)), (2, .ref (nA.getD 0 0)), (3, zz_v x), (4, zz_v z)]) rfl ?_
          refine ge_iload hC dL_offices_188 (j := 1) rfl ?_
          refine ge_iconst hC dL_offices_190 ?_
          refine ge_icmp_lt hC dL_offices_191 (tgt := 249) (by decide) r32r ⟨by decide, by decide⟩ (fun c37 => (by omega)) (fun c37 => ?_)
          refine ge_iload hC dL_offices_194 (j := 1) rfl ?_
          refine ge_aload_n hC dL_offices_196 rfl (j := 7) rfl ?_
          refine ge_iconst hC dL_offices_197 ?_
          refine ge_iald hC hK (q := 0) (j := 0) hnA rfl rfl (by decide) dL_offices_198 (fun _ => ?_)
          refine ge_top (y := T 0 3) hV.1 ?_
          refine ge_icmp_ge hC dL_offices_199 (tgt := 249) (by decide) r32r ⟨by omega, by omega⟩ (fun c38 => (by omega)) (fun c38 => ?_)
          refine ge_iload hC dL_offices_202 (j := 2) rfl ?_
          refine ge_iconst hC dL_offices_204 ?_
          refine ge_icmp_ne hC dL_offices_205 (tgt := 215) (by decide) ⟨by omega, by omega⟩ ⟨by decide, by decide⟩ (fun c39 => ?_) (fun c39 => ?_)
          · skip
            refine ge_aload_n hC dL_offices_215 rfl (j := 5) rfl ?_
            refine ge_aload_n hC dL_offices_216 rfl (j := 6) rfl ?_
            refine ge_iconst hC dL_offices_217 ?_
            refine ge_iload hC dL_offices_218 (j := 3) rfl ?_
            refine ge_iload hC dL_offices_220 (j := 2) rfl ?_
            refine ge_iconst hC dL_offices_222 ?_
            refine ge_both (what := 2) (x := s18) (y := s31 - 1) (w := 0) (rest := []) hl9 hC hF (fun G' a' => (c_L_does_delegate l hl9 N0 G' Y a' T33 0 s18 (s31 - 1) ⟨by omega, by omega⟩ ⟨by omega, by omega⟩ (by omega) ICT33)) (by refine ⟨fun z9 => ⟨?_, ?_, ?_⟩, fun z9 => ⟨?_, ?_⟩, fun z9 => ?_⟩ <;> intro z8 <;> first | exact z8.elim | exact z9.elim | omega) (va_cwS 6 hts gL_offices_L_both rfl rfl rfl (by decide +kernel) ⟨by decide, by decide⟩) rfl (Nat.le_of_ble_eq_true rfl) dL_offices_223 ⟨Nat.le_of_ble_eq_true rfl, Nat.le_of_ble_eq_true rfl⟩ (fun r40 T41 r40r hw => ?_)
            rcases hw with ⟨r40e, hwF, hT⟩ | ⟨r40e, hwF, hT⟩ | ⟨r40e, hwF, hT⟩ | ⟨r40e, hwF, hT⟩
            · skip
              have hT2 : T41 = zk_dS T33 s18 (s31 - 1) := hT
              obtain ⟨k21, k22, k23, k24, k25⟩ := zk_delegate (x := s18) (y := (s31 - 1)) k11 (by omega) (by omega) (by omega)
              rw [← hT2] at k21
              rw [← hT2] at k15
              have k20 : T41 0 = T33 0 := by rw [hT2]; exact zk_d0 T33 s18 (s31 - 1)
              have k2a : T41 0 3 = T33 0 3 := by rw [k20]
              have k2b : T41 0 7 = T33 0 7 := by rw [k20]
              have k2c : T41 0 9 = T33 0 9 := by rw [k20]
              have k2d : T41 0 10 = T33 0 10 := by rw [k20]
              have ICT41 : zz_IC T41 := zi_IC (by omega) k21
              have k14q : r40 = (s31 - 1) := by rw [r40e, k1d]; exact k14
              refine ge_iload hC dL_offices_226 (j := 2) rfl ?_
              refine ge_icmp_ne hC dL_offices_228 (tgt := 249) (by decide) r40r ⟨by omega, by omega⟩ (fun c42 => (by omega)) (fun c42 => ?_)
              refine ge_aload_n hC dL_offices_231 rfl (j := 5) rfl ?_
              refine ge_iload hC dL_offices_232 (j := 3) rfl ?_
              refine ge_aload_n hC dL_offices_234 rfl (j := 7) rfl ?_
              refine ge_iconst hC dL_offices_235 ?_
              refine ge_iald hC hK (q := 0) (j := 3) hnA rfl rfl (by decide) dL_offices_236 (fun _ => ?_)
              refine ge_top (y := T 0 10) hV.2.2.2 ?_
              refine ge_ask (As := [zz_v s18, zz_v (T 0 10)]) (rest := []) hC hF (c_X3_whose l hl9 N0 _ Y a T41 s18 (T 0 10) ⟨by omega, by omega⟩ ⟨by omega, by omega⟩ ICT41) (by refine ⟨?_, ?_, ?_⟩ <;> first | omega | exact fun z => z) (cwV 2 hts gL_offices_X3_whose rfl rfl rfl (by decide +kernel) ⟨by decide, by decide⟩) rfl rfl (Nat.le_of_ble_eq_true rfl) dL_offices_237 ⟨Nat.le_of_ble_eq_true rfl, Nat.le_of_ble_eq_true rfl⟩ (fun _ q43r => ?_)
              obtain ⟨a44, a44e⟩ : ∃ a44 : Int, a44 = zi_wh T41 (T 0 10) s18 := ⟨_, rfl⟩
              have a44r : zz_R a44 := by rw [a44e]; exact q43r
              refine ge_top (y := a44) a44e.symm ?_
              clear q43r
              have a44q : a44 = a36 := by rw [a44e, a36e]; exact k15
              refine ge_iload hC dL_offices_240 (j := 0) rfl ?_
              refine ge_icmp_ne hC dL_offices_242 (tgt := 249) (by decide) a44r a36r (fun c45 => (by omega)) (fun c45 => ?_)
              refine ge_iconst hC dL_offices_245 ?_
              refine ge_goto hC dL_offices_246 (tgt := 250) (by decide) ?_
              exact ge_ireturn hC hr rfl hlk dL_offices_250 (Nat.le_of_ble_eq_true rfl) ⟨rfl, T41, V, rfl, k21, by unfold zi_V; first | omega | (refine ⟨?_, ?_, ?_, ?_⟩ <;> omega)⟩
            · exfalso; first | omega | exact hwF
            · exfalso; first | omega | exact hwF
            · exfalso; first | omega | exact hwF
          · skip
            refine ge_iload hC dL_offices_208 (j := 0) rfl ?_
            refine ge_iload hC dL_offices_210 (j := 3) rfl ?_
            refine ge_icmp_ne hC dL_offices_212 (tgt := 249) (by decide) a36r ⟨by omega, by omega⟩ (fun c46 => (by omega)) (fun c46 => ?_)
            refine ge_aload_n hC dL_offices_215 rfl (j := 5) rfl ?_
            refine ge_aload_n hC dL_offices_216 rfl (j := 6) rfl ?_
            refine ge_iconst hC dL_offices_217 ?_
            refine ge_iload hC dL_offices_218 (j := 3) rfl ?_
            refine ge_iload hC dL_offices_220 (j := 2) rfl ?_
            refine ge_iconst hC dL_offices_222 ?_
            refine ge_both (what := 2) (x := s18) (y := s31 - 1) (w := 0) (rest := []) hl9 hC hF (fun G' a' => (c_L_does_delegate l hl9 N0 G' Y a' T33 0 s18 (s31 - 1) ⟨by omega, by omega⟩ ⟨by omega, by omega⟩ (by omega) ICT33)) (by refine ⟨fun z9 => ⟨?_, ?_, ?_⟩, fun z9 => ⟨?_, ?_⟩, fun z9 => ?_⟩ <;> intro z8 <;> first | exact z8.elim | exact z9.elim | omega) (va_cwS 6 hts gL_offices_L_both rfl rfl rfl (by decide +kernel) ⟨by decide, by decide⟩) rfl (Nat.le_of_ble_eq_true rfl) dL_offices_223 ⟨Nat.le_of_ble_eq_true rfl, Nat.le_of_ble_eq_true rfl⟩ (fun r47 T48 r47r hw => ?_)
            rcases hw with ⟨r47e, hwF, hT⟩ | ⟨r47e, hwF, hT⟩ | ⟨r47e, hwF, hT⟩ | ⟨r47e, hwF, hT⟩
            · skip
              have hT2 : T48 = zk_dS T33 s18 (s31 - 1) := hT
              obtain ⟨k21, k22, k23, k24, k25⟩ := zk_delegate (x := s18) (y := (s31 - 1)) k11 (by omega) (by omega) (by omega)
              rw [← hT2] at k21
              rw [← hT2] at k15
              have k20 : T48 0 = T33 0 := by rw [hT2]; exact zk_d0 T33 s18 (s31 - 1)
              have k2a : T48 0 3 = T33 0 3 := by rw [k20]
              have k2b : T48 0 7 = T33 0 7 := by rw [k20]
              have k2c : T48 0 9 = T33 0 9 := by rw [k20]
              have k2d : T48 0 10 = T33 0 10 := by rw [k20]
              have ICT48 : zz_IC T48 := zi_IC (by omega) k21
              have k14q : r47 = (s31 - 1) := by rw [r47e, k1d]; exact k14
              refine ge_iload hC dL_offices_226 (j := 2) rfl ?_
              refine ge_icmp_ne hC dL_offices_228 (tgt := 249) (by decide) r47r ⟨by omega, by omega⟩ (fun c49 => (by omega)) (fun c49 => ?_)
              refine ge_aload_n hC dL_offices_231 rfl (j := 5) rfl ?_
              refine ge_iload hC dL_offices_232 (j := 3) rfl ?_
              refine ge_aload_n hC dL_offices_234 rfl (j := 7) rfl ?_
              refine ge_iconst hC dL_offices_235 ?_
              refine ge_iald hC hK (q := 0) (j := 3) hnA rfl rfl (by decide) dL_offices_236 (fun _ => ?_)
              refine ge_top (y := T 0 10) hV.2.2.2 ?_
              refine ge_ask (As := [zz_v s18, zz_v (T 0 10)]) (rest := []) hC hF (c_X3_whose l hl9 N0 _ Y a T48 s18 (T 0 10) ⟨by omega, by omega⟩ ⟨by omega, by omega⟩ ICT48) (by refine ⟨?_, ?_, ?_⟩ <;> first | omega | exact fun z => z) (cwV 2 hts gL_offices_X3_whose rfl rfl rfl (by decide +kernel) ⟨by decide, by decide⟩) rfl rfl (Nat.le_of_ble_eq_true rfl) dL_offices_237 ⟨Nat.le_of_ble_eq_true rfl, Nat.le_of_ble_eq_true rfl⟩ (fun _ q50r => ?_)
              obtain ⟨a51, a51e⟩ : ∃ a51 : Int, a51 = zi_wh T48 (T 0 10) s18 := ⟨_, rfl⟩
              have a51r : zz_R a51 := by rw [a51e]; exact q50r
              refine ge_top (y := a51) a51e.symm ?_
              clear q50r
              have a51q : a51 = a36 := by rw [a51e, a36e]; exact k15
              refine ge_iload hC dL_offices_240 (j := 0) rfl ?_
              refine ge_icmp_ne hC dL_offices_242 (tgt := 249) (by decide) a51r a36r (fun c52 => (by omega)) (fun c52 => ?_)
              refine ge_iconst hC dL_offices_245 ?_
              refine ge_goto hC dL_offices_246 (tgt := 250) (by decide) ?_
              exact ge_ireturn hC hr rfl hlk dL_offices_250 (Nat.le_of_ble_eq_true rfl) ⟨rfl, T48, V, rfl, k21, by unfold zi_V; first | omega | (refine ⟨?_, ?_, ?_, ?_⟩ <;> omega)⟩
            · exfalso; first | omega | exact hwF
            · exfalso; first | omega | exact hwF
            · exfalso; first | omega | exact hwF
        · exfalso; first | omega | exact hwF
        · skip
          rw [r32e, hT]
          refine ge_istore hC dL_offices_155 (by decide) (lv' := [(8, zz_v (-2000000002)), (7, zz_v (s31 - 1)), (6, zz_v s18), (5, zz_v s1), (0, .ref (a 0)), (1, .ref (a 77)), (2, .ref (nA.getD 0 0)), (3, zz_v x), (4, zz_v z)]) rfl ?_
          refine ge_iload hC dL_offices_157 (j := 0) rfl ?_
          refine ge_ldc hC (n := -2000000002) k20 dL_offices_159 ?_
          refine ge_icmp_ne hC dL_offices_161 (tgt := 177) (by decide) ⟨by decide, by decide⟩ ⟨by decide, by decide⟩ (fun c53 => (by omega)) (fun c53 => ?_)
          refine ge_iload hC dL_offices_164 (j := 1) rfl ?_
          refine ge_iload hC dL_offices_166 (j := 2) rfl ?_
          refine ge_icmp_ne hC dL_offices_168 (tgt := 175) (by decide) ⟨by omega, by omega⟩ ⟨by omega, by omega⟩ (fun c54 => (by omega)) (fun c54 => ?_)
          refine ge_iconst hC dL_offices_171 ?_
          refine ge_goto hC dL_offices_172 (tgt := 176) (by decide) ?_
          exact ge_ireturn hC hr rfl hlk dL_offices_176 (Nat.le_of_ble_eq_true rfl) ⟨rfl, T, V, rfl, zi_wide (Nat.le_add_right _ _) hI, by unfold zi_V; first | omega | (refine ⟨?_, ?_, ?_, ?_⟩ <;> omega)⟩
        · exfalso; first | omega | exact hwF
    · skip
      refine ge_aload_n hC dL_offices_20 rfl (j := 1) rfl ?_
      refine ge_aload_n hC dL_offices_21 rfl (j := 2) rfl ?_
      refine ge_iconst hC dL_offices_22 ?_
      refine ge_iload hC dL_offices_23 (j := 5) rfl ?_
      refine ge_aload_n hC dL_offices_25 rfl (j := 3) rfl ?_
      refine ge_iconst hC dL_offices_26 ?_
      refine ge_iald hC hK (q := 0) (j := 0) hnA rfl rfl (by decide) dL_offices_27 (fun _ => ?_)
      refine ge_top (y := T 0 3) hV.1 ?_
      refine ge_iconst hC dL_offices_28 ?_
      refine ge_iadd hC dL_offices_29 ?_
      refine ge_some (x := z) (n := (T 0 3) + 1) (rest := [zz_v 1, .ref (a 77), .ref (a 0)]) hC hF ⟨by omega, by omega⟩ (va_cwS 2 hts gL_offices_L_some rfl rfl rfl (by decide +kernel) ⟨by decide, by decide⟩) rfl (Nat.le_of_ble_eq_true rfl) dL_offices_30 ⟨Nat.le_of_ble_eq_true rfl, Nat.le_of_ble_eq_true rfl⟩ (fun s55 s55a s55b => ?_)
      refine ge_iconst hC dL_offices_33 ?_
      refine ge_isub hC dL_offices_34 ?_
      refine ge_iconst hC dL_offices_35 ?_
      refine ge_iconst hC dL_offices_36 ?_
      refine ge_both (what := 1) (x := s55 - 1) (y := 0) (w := 0) (rest := []) hl9 hC hF (fun G' a' => (c_L_does_office l hl9 N0 G' Y a' T 0 0 (s55 - 1) ⟨by omega, by omega⟩ hIC)) (by refine ⟨fun z9 => ⟨?_, ?_, ?_⟩, fun z9 => ⟨?_, ?_⟩, fun z9 => ?_⟩ <;> intro z8 <;> first | exact z8.elim | exact z9.elim | omega) (va_cwS 6 hts gL_offices_L_both rfl rfl rfl (by decide +kernel) ⟨by decide, by decide⟩) rfl (Nat.le_of_ble_eq_true rfl) dL_offices_37 ⟨Nat.le_of_ble_eq_true rfl, Nat.le_of_ble_eq_true rfl⟩ (fun r56 T57 r56r hw => ?_)
      rcases hw with ⟨r56e, hwF, hT⟩ | ⟨r56e, hwF, hT⟩ | ⟨r56e, hwF, hT⟩ | ⟨r56e, hwF, hT⟩
      · skip
        have hT2 : T57 = zk_oS T (s55 - 1) := hT
        obtain ⟨j1, j2, j3, j4, j5, j6⟩ := zk_office (x := s55 - 1) hI (by omega) (by omega)
        rw [← hT2] at j1 j2 j3 j4 j5 j6
        have ICT57 : zz_IC T57 := zi_IC (by omega) j1
        refine ge_istore hC dL_offices_40 (by decide) (lv' := [(6, zz_v r56), (5, zz_v s1), (0, .ref (a 0)), (1, .ref (a 77)), (2, .ref (nA.getD 0 0)), (3, zz_v x), (4, zz_v z)]) rfl ?_
        refine ge_aload_n hC dL_offices_42 rfl (j := 4) rfl ?_
        refine ge_iconst hC dL_offices_43 ?_
        refine ge_dup2 hC dL_offices_44 rfl rfl ?_
        refine ge_iald hC hK (q := 0) (j := 0) hnA rfl rfl (by decide) dL_offices_45 (fun _ => ?_)
        refine ge_top (y := T 0 3) hV.1 ?_
        refine ge_iload hC dL_offices_46 (j := 0) rfl ?_
        refine ge_if_lt hC dL_offices_48 (tgt := 55) (by decide) r56r (fun c58 => (by omega)) (fun c58 => ?_)
        refine ge_iconst hC dL_offices_51 ?_
        refine ge_goto hC dL_offices_52 (tgt := 56) (by decide) ?_
        refine ge_iadd hC dL_offices_56 ?_
        refine ge_iast hC hK (q := 0) (j := 0) hnA rfl rfl (by decide) ⟨by omega, by omega⟩ dL_offices_57 ?_
        obtain ⟨V59, hV59⟩ : ∃ V59 : zz_S, V59 = zz_u V 0 0 ((T 0 3) + 1) := ⟨_, rfl⟩
        refine ge_eq (U' := (T57, T57, V59)) (by rw [hV59]) ?_
        have dV59_0 : V59 0 0 = (T 0 3) + 1 := by rw [hV59, zz_u_same]
        have dV59_1 : V59 0 1 = T 0 7 := by rw [hV59, zz_u_ne _ _ (by omega)]; exact hV.2.1
        have dV59_2 : V59 0 2 = T 0 9 := by rw [hV59, zz_u_ne _ _ (by omega)]; exact hV.2.2.1
        have dV59_3 : V59 0 3 = T 0 10 := by rw [hV59, zz_u_ne _ _ (by omega)]; exact hV.2.2.2
        clear hV59
        refine ge_iload hC dL_offices_58 (j := 0) rfl ?_
        refine ge_ldc hC (n := -2000000003) k23 dL_offices_60 ?_
        refine ge_icmp_ne hC dL_offices_62 (tgt := 81) (by decide) r56r ⟨by decide, by decide⟩ (fun c60 => ?_) (fun c60 => (by omega))
        refine ge_iload hC dL_offices_81 (j := 0) rfl ?_
        refine ge_aload_n hC dL_offices_83 rfl (j := 4) rfl ?_
        refine ge_iconst hC dL_offices_84 ?_
        refine ge_iald hC hK (q := 0) (j := 0) hnA rfl rfl (by decide) dL_offices_85 (fun _ => ?_)
        refine ge_top (y := (T 0 3) + 1) dV59_0 ?_
        refine ge_iconst hC dL_offices_86 ?_
        refine ge_isub hC dL_offices_87 ?_
        refine ge_icmp_ne hC dL_offices_88 (tgt := 109) (by decide) r56r ⟨by omega, by omega⟩ (fun c61 => (by omega)) (fun c61 => ?_)
        refine ge_aload_n hC dL_offices_91 rfl (j := 2) rfl ?_
        refine ge_iload hC dL_offices_92 (j := 0) rfl ?_
        refine ge_aload_n hC dL_offices_94 rfl (j := 4) rfl ?_
        refine ge_iconst hC dL_offices_95 ?_
        refine ge_iald hC hK (q := 0) (j := 3) hnA rfl rfl (by decide) dL_offices_96 (fun _ => ?_)
        refine ge_top (y := T 0 10) dV59_3 ?_
        refine ge_ask (As := [zz_v r56, zz_v (T 0 10)]) (rest := []) hC hF (c_X3_whose l hl9 N0 _ Y a T57 r56 (T 0 10) r56r ⟨by omega, by omega⟩ ICT57) (by refine ⟨?_, ?_, ?_⟩ <;> first | omega | exact fun z => z) (cwV 2 hts gL_offices_X3_whose rfl rfl rfl (by decide +kernel) ⟨by decide, by decide⟩) rfl rfl (Nat.le_of_ble_eq_true rfl) dL_offices_97 ⟨Nat.le_of_ble_eq_true rfl, Nat.le_of_ble_eq_true rfl⟩ (fun _ q62r => ?_)
        obtain ⟨a63, a63e⟩ : ∃ a63 : Int, a63 = zi_wh T57 (T 0 10) r56 := ⟨_, rfl⟩
        have a63r : zz_R a63 := by rw [a63e]; exact q62r
        refine ge_top (y := a63) a63e.symm ?_
        clear q62r
        have a63q : a63 = r56 := by rw [a63e, r56e]; exact j2
        refine ge_iload hC dL_offices_100 (j := 0) rfl ?_
        refine ge_icmp_ne hC dL_offices_102 (tgt := 109) (by decide) a63r r56r (fun c64 => (by omega)) (fun c64 => ?_)
        refine ge_iconst hC dL_offices_105 ?_
        refine ge_goto hC dL_offices_106 (tgt := 110) (by decide) ?_
        exact ge_ireturn hC hr rfl hlk dL_offices_110 (Nat.le_of_ble_eq_true rfl) ⟨rfl, T57, V59, rfl, zi_wide (Nat.le_add_right _ _) j1, by unfold zi_V; first | omega | (refine ⟨?_, ?_, ?_, ?_⟩ <;> omega)⟩
      · exfalso; first | omega | exact hwF
      · exfalso; first | omega | exact hwF
      · skip
        rw [r56e, hT]
        refine ge_istore hC dL_offices_40 (by decide) (lv' := [(6, zz_v (-2000000003)), (5, zz_v s1), (0, .ref (a 0)), (1, .ref (a 77)), (2, .ref (nA.getD 0 0)), (3, zz_v x), (4, zz_v z)]) rfl ?_
        refine ge_aload_n hC dL_offices_42 rfl (j := 4) rfl ?_
        refine ge_iconst hC dL_offices_43 ?_
        refine ge_dup2 hC dL_offices_44 rfl rfl ?_
        refine ge_iald hC hK (q := 0) (j := 0) hnA rfl rfl (by decide) dL_offices_45 (fun _ => ?_)
        refine ge_top (y := T 0 3) hV.1 ?_
        refine ge_iload hC dL_offices_46 (j := 0) rfl ?_
        refine ge_if_lt hC dL_offices_48 (tgt := 55) (by decide) ⟨by decide, by decide⟩ (fun c65 => ?_) (fun c65 => (by omega))
        refine ge_iconst hC dL_offices_55 ?_
        refine ge_iadd hC dL_offices_56 ?_
        refine ge_iast hC hK (q := 0) (j := 0) hnA rfl rfl (by decide) ⟨by omega, by omega⟩ dL_offices_57 ?_
        obtain ⟨V66, hV66⟩ : ∃ V66 : zz_S, V66 = zz_u V 0 0 ((T 0 3) + 0) := ⟨_, rfl⟩
        refine ge_eq (U' := (T, T, V66)) (by rw [hV66]) ?_
        have dV66_0 : V66 0 0 = (T 0 3) + 0 := by rw [hV66, zz_u_same]
        have dV66_1 : V66 0 1 = T 0 7 := by rw [hV66, zz_u_ne _ _ (by omega)]; exact hV.2.1
        have dV66_2 : V66 0 2 = T 0 9 := by rw [hV66, zz_u_ne _ _ (by omega)]; exact hV.2.2.1
        have dV66_3 : V66 0 3 = T 0 10 := by rw [hV66, zz_u_ne _ _ (by omega)]; exact hV.2.2.2
        clear hV66
        refine ge_iload hC dL_offices_58 (j := 0) rfl ?_
        refine ge_ldc hC (n := -2000000003) k23 dL_offices_60 ?_
        refine ge_icmp_ne hC dL_offices_62 (tgt := 81) (by decide) ⟨by decide, by decide⟩ ⟨by decide, by decide⟩ (fun c67 => (by omega)) (fun c67 => ?_)
        refine ge_aload_n hC dL_offices_65 rfl (j := 4) rfl ?_
        refine ge_iconst hC dL_offices_66 ?_
        refine ge_iald hC hK (q := 0) (j := 0) hnA rfl rfl (by decide) dL_offices_67 (fun _ => ?_)
        refine ge_top (y := (T 0 3) + 0) dV66_0 ?_
        refine ge_bipush hC dL_offices_68 rfl ?_
        refine ge_icmp_ne hC dL_offices_70 (tgt := 77) (by decide) ⟨by omega, by omega⟩ ⟨by decide, by decide⟩ (fun c68 => (by omega)) (fun c68 => ?_)
        refine ge_iconst hC dL_offices_73 ?_
        refine ge_goto hC dL_offices_74 (tgt := 110) (by decide) ?_
        exact ge_ireturn hC hr rfl hlk dL_offices_110 (Nat.le_of_ble_eq_true rfl) ⟨rfl, T, V66, rfl, zi_wide (Nat.le_add_right _ _) hI, by unfold zi_V; first | omega | (refine ⟨?_, ?_, ?_, ?_⟩ <;> omega)⟩
