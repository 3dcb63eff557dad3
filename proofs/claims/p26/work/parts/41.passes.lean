abbrev rm_L_passes : Room := { frames := 11, cells := 240, slots := 1440, locals := 228 }
set_option maxHeartbeats 4000000 in
set_option maxRecDepth 100000 in
theorem c_L_passes (l : Launch) (hl9 : l.stackTraces = false) (N0 : Nat) (G : zz_G) (Y : zz_Y) (a : Nat → Nat) (T V : zz_S) (n : Nat) (ad : Nat) (z : Int) (hz : zz_R z) (hn : n + 2 ≤ 512) (hI : zi_ T n) (hV : zi_V T V) : Cy_ l yL_passes wsL_passes rm_L_passes 240 [.ref (a 0), .ref (a 77), .ref ad, zz_v z] N0 G Y a [ad] (T, T, V) (zl_post (n + 2)) := by
  refine Cy_.of (cc := cL_passes) (maxL := 11) (ret := (some .boolean)) (by decide) rfl (Nat.le_of_ble_eq_true rfl) ?_
  intro p e s m args below meth c hC hts hr hlk hF
  have hK := hF.2.1
  have k23 : (Cond.constant RL 23 (Int32.ofInt (-2000000003))).before args s = true := hts _ (by decide +kernel)
  have hIC : zz_IC T := zi_IC (by omega) hI
  obtain ⟨hA, hB, hCC, hD, hE, hFF, hG, hH⟩ := id hI
  have hd0 := hB.1
  have hd1 := hFF.1
  have hd2 := hH.1
  have hd3 : 0 ≤ T 0 10 ∧ T 0 10 ≤ 5000 := hCC
  have hdc := hD.1
  have hlc := hE.1
  obtain ⟨hV0, hV1, hV2, hV3⟩ := id hV
  refine ge_lveq (lv' := [(0, .ref (a 0)), (1, .ref (a 77)), (2, .ref ad), (3, zz_v z)]) rfl ?_
  have key : ∀ days : Int, (1 ≤ days ∧ days ≤ 100) → Ge_ p l e rm_L_passes s m args below meth c (vx_MQ below (zy_Q N0 G a [ad] (zl_post (n + 2))) zy_X args s 240 (6 * 240) (zz_A N0)) N0 G a [ad] 11 0 (T, T, V) 31 [(0, .ref (a 0)), (1, .ref (a 77)), (2, .ref ad), (3, zz_v z)] [zz_v days] := by
    intro days hdr
    refine ge_istore hC dL_passes_31 (by decide) (lv' := [(4, zz_v days), (0, .ref (a 0)), (1, .ref (a 77)), (2, .ref ad), (3, zz_v z)]) rfl ?_
    refine ge_bipush hC dL_passes_33 rfl ?_
    refine ge_newa hC hF.1 (hts _ (by decide +kernel)) hK (Nat.le_of_ble_eq_true rfl) ⟨show _ ≤ 240 by omega, show _ ≤ 1440 by omega⟩ dL_passes_35 (fun q1 => ?_)
    refine ge_astore hC dL_passes_37 (by decide) (lv' := [(5, .ref q1), (4, zz_v days), (0, .ref (a 0)), (1, .ref (a 77)), (2, .ref ad), (3, zz_v z)]) rfl ?_
    refine ge_bipush hC dL_passes_39 rfl ?_
    refine ge_newa hC hF.1 (hts _ (by decide +kernel)) hK (Nat.le_of_ble_eq_true rfl) ⟨show _ ≤ 240 by omega, show _ ≤ 1440 by omega⟩ dL_passes_41 (fun q2 => ?_)
    obtain ⟨Vz, hVz⟩ : ∃ Vz : zz_S, Vz = va_up (va_up V 1 (fun _ => 0)) 2 (fun _ => 0) := ⟨_, rfl⟩
    refine ge_eq (U' := (T, T, Vz)) (by rw [hVz]; rfl) ?_
    have hz0 : Vz 0 = V 0 := by rw [hVz, va_up_ne _ _ (by omega), va_up_ne _ _ (by omega)]
    have hVv : zi_V T Vz := by unfold zi_V at *; rw [hz0]; exact hV
    refine ge_astore hC dL_passes_43 (by decide) (lv' := [(6, .ref q2), (5, .ref q1), (4, zz_v days), (0, .ref (a 0)), (1, .ref (a 77)), (2, .ref ad), (3, zz_v z)]) rfl ?_
    refine ge_iconst hC dL_passes_45 ?_
    refine ge_istore hC dL_passes_46 (by decide) (lv' := [(7, zz_v 0), (6, .ref q2), (5, .ref q1), (4, zz_v days), (0, .ref (a 0)), (1, .ref (a 77)), (2, .ref ad), (3, zz_v z)]) rfl ?_
    refine ge_sub [4, 5, 6, 3, 2, 1, 0] (lv' := [(0, .ref (a 0)), (1, .ref (a 77)), (2, .ref ad), (4, zz_v days), (5, .ref q1), (6, .ref q2), (7, zz_v 0)]) rfl ?_
    refine ge_loopA (σ := Nat × zz_S) (μ := fun vz => (T 0 9).toNat - vz.1) (I := fun vz => vz.1 ≤ (T 0 9).toNat ∧ zi_V T vz.2 ∧ ∀ j : Nat, j < vz.1 → vz.2 1 j = T (61 + j) 2 ∧ vz.2 2 j = zk_x T j) (kf := fun vz => 6 + 6 * vz.1) (Uf := fun vz => (T, T, vz.2)) (lf := fun vz => [(0, .ref (a 0)), (1, .ref (a 77)), (2, .ref ad), (4, zz_v days), (5, .ref q1), (6, .ref q2), (7, zz_v (vz.1 : Int))]) (0, Vz) ⟨Nat.zero_le _, hVv, fun j hj => absurd hj (by omega)⟩ (by rfl) rfl rfl (fun ⟨i, L⟩ hI9 ih48 => ?_)
    obtain ⟨hi, hVL, hL⟩ : i ≤ (T 0 9).toNat ∧ zi_V T L ∧ ∀ j : Nat, j < i → L 1 j = T (61 + j) 2 ∧ L 2 j = zk_x T j := hI9
    refine ge_lveq (lv' := [(0, .ref (a 0)), (1, .ref (a 77)), (2, .ref ad), (4, zz_v days), (5, .ref q1), (6, .ref q2), (7, zz_v (i : Int))]) rfl ?_
    refine ge_eq (U' := (T, T, L)) rfl ?_
    refine ge_sup (k' := 6 + 6 * i) rfl ?_
    obtain ⟨hL0, hL1, hL2, hL3⟩ := id hVL
    refine ge_iload hC dL_passes_48 (j := 6) rfl ?_
    refine ge_aload_n hC dL_passes_50 rfl (j := 2) rfl ?_
    refine ge_iconst hC dL_passes_51 ?_
    refine ge_iald hC hK (q := 0) (j := 2) (Nat.le_of_ble_eq_true rfl) rfl rfl (by decide) dL_passes_52 (fun _ => ?_)
    refine ge_top (y := T 0 9) hVL.2.2.1 ?_
    refine ge_icmp_ge hC dL_passes_53 (tgt := 97) (by decide) ⟨by omega, by omega⟩ ⟨by omega, by omega⟩ (fun c1 => ?_) (fun c1 => ?_)
    · skip
      obtain rfl : i = (T 0 9).toNat := by omega
      refine ge_aload_n hC dL_passes_97 rfl (j := 0) rfl ?_
      refine ge_aload_n hC dL_passes_98 rfl (j := 1) rfl ?_
      refine ge_bipush hC dL_passes_99 rfl ?_
      refine ge_iload hC dL_passes_101 (j := 3) rfl ?_
      refine ge_iconst hC dL_passes_103 ?_
      refine ge_iconst hC dL_passes_104 ?_
      refine ge_both (what := 16) (x := days) (y := 0) (w := 0) (rest := []) hl9 hC hF (fun G' a' => (c_L_does_pass l hl9 N0 G' Y a' T 0 0 days ⟨by omega, by omega⟩ hIC)) (by refine ⟨fun z9 => ⟨?_, ?_, ?_⟩, fun z9 => ⟨?_, ?_⟩, fun z9 => ?_⟩ <;> intro z8 <;> first | exact z8.elim | exact z9.elim | omega) (va_cwS 6 hts gL_passes_L_both rfl rfl rfl (by decide +kernel) ⟨by decide, by decide⟩) rfl (Nat.le_of_ble_eq_true rfl) dL_passes_105 ⟨show _ ≤ 240 by omega, show _ ≤ 1440 by omega⟩ (fun r2 T3 r2r hw => ?_)
      rcases hw with ⟨r2e, hwF, hT⟩ | ⟨r2e, hwF, hT⟩ | ⟨r2e, hwF, hT⟩ | ⟨r2e, hwF, hT⟩
      · skip
        have hT1 : T3 = zk_pS T days := hT
        obtain ⟨j1, ⟨j3, j7, j9, j10⟩, jr⟩ := zk_pass (x := days) hI (by omega) (by omega)
        rw [← hT1] at j1 j3 j7 j9 j10 jr
        have ICT3 : zz_IC T3 := zi_IC (by omega) j1
        have r2q : r2 = T 0 10 + days := r2e
        refine ge_istore hC dL_passes_108 (by decide) (lv' := [(7, zz_v r2), (0, .ref (a 0)), (1, .ref (a 77)), (2, .ref ad), (4, zz_v days), (5, .ref q1), (6, .ref q2)]) rfl ?_
        refine ge_iload hC dL_passes_110 (j := 0) rfl ?_
        refine ge_ldc hC (n := -2000000003) k23 dL_passes_112 ?_
        refine ge_icmp_ne hC dL_passes_114 (tgt := 135) (by decide) r2r ⟨by decide, by decide⟩ (fun c4 => ?_) (fun c4 => (by omega))
        refine ge_aload_n hC dL_passes_135 rfl (j := 3) rfl ?_
        refine ge_iconst hC dL_passes_136 ?_
        refine ge_dup2 hC dL_passes_137 rfl rfl ?_
        refine ge_iald hC hK (q := 0) (j := 3) (Nat.le_of_ble_eq_true rfl) rfl rfl (by decide) dL_passes_138 (fun _ => ?_)
        refine ge_top (y := T 0 10) hVL.2.2.2 ?_
        refine ge_iload hC dL_passes_139 (j := 4) rfl ?_
        refine ge_iadd hC dL_passes_141 ?_
        refine ge_iast hC hK (q := 0) (j := 3) (Nat.le_of_ble_eq_true rfl) rfl rfl (by decide) ⟨by omega, by omega⟩ dL_passes_142 ?_
        obtain ⟨V5, hV5⟩ : ∃ V5 : zz_S, V5 = zz_u L 0 3 ((T 0 10) + days) := ⟨_, rfl⟩
        refine ge_eq (U' := (T3, T3, V5)) (by rw [hV5]) ?_
        have dV5_0 : V5 0 0 = T 0 3 := by rw [hV5, zz_u_ne _ _ (by omega)]; exact hVL.1
        have dV5_1 : V5 0 1 = T 0 7 := by rw [hV5, zz_u_ne _ _ (by omega)]; exact hVL.2.1
        have dV5_2 : V5 0 2 = T 0 9 := by rw [hV5, zz_u_ne _ _ (by omega)]; exact hVL.2.2.1
        have dV5_3 : V5 0 3 = (T 0 10) + days := by rw [hV5, zz_u_same]
        have wV5_1 : V5 1 = L 1 := by rw [hV5, zz_u_off _ _ (by omega)]
        have wV5_2 : V5 2 = L 2 := by rw [hV5, zz_u_off _ _ (by omega)]
        refine ge_iload hC dL_passes_143 (j := 0) rfl ?_
        refine ge_aload_n hC dL_passes_145 rfl (j := 3) rfl ?_
        refine ge_iconst hC dL_passes_146 ?_
        refine ge_iald hC hK (q := 0) (j := 3) (Nat.le_of_ble_eq_true rfl) rfl rfl (by decide) dL_passes_147 (fun _ => ?_)
        refine ge_top (y := (T 0 10) + days) dV5_3 ?_
        refine ge_icmp_ne hC dL_passes_148 (tgt := 155) (by decide) r2r ⟨by omega, by omega⟩ (fun c6 => (by omega)) (fun c6 => ?_)
        refine ge_iconst hC dL_passes_151 ?_
        refine ge_goto hC dL_passes_152 (tgt := 156) (by decide) ?_
        refine ge_istore hC dL_passes_156 (by decide) (lv' := [(8, zz_v 1), (7, zz_v r2), (0, .ref (a 0)), (1, .ref (a 77)), (2, .ref ad), (4, zz_v days), (5, .ref q1), (6, .ref q2)]) rfl ?_
        refine ge_iconst hC dL_passes_158 ?_
        refine ge_istore hC dL_passes_159 (by decide) (lv' := [(9, zz_v 0), (8, zz_v 1), (7, zz_v r2), (0, .ref (a 0)), (1, .ref (a 77)), (2, .ref ad), (4, zz_v days), (5, .ref q1), (6, .ref q2)]) rfl ?_
        refine ge_sub [3, 5, 6, 7, 8, 1, 0] (lv' := [(0, .ref (a 0)), (2, .ref ad), (4, zz_v days), (5, .ref q1), (6, .ref q2), (8, zz_v 1), (9, zz_v 0)]) rfl ?_
        refine ge_loopA (σ := Nat) (μ := fun vz => (T 0 9).toNat - vz) (I := fun vz => vz ≤ (T 0 9).toNat) (kf := fun vz => 14 + 6 * (T 0 9).toNat + 4 * vz) (Uf := fun vz => (T3, T3, V5)) (lf := fun vz => [(0, .ref (a 0)), (2, .ref ad), (4, zz_v days), (5, .ref q1), (6, .ref q2), (8, zz_v 1), (9, zz_v (vz : Int))]) 0 (Nat.zero_le _) (show _ = 14 + 6 * (T 0 9).toNat + 4 * 0 by omega) rfl rfl (fun u hu9 ih161 => ?_)
        have hu : u ≤ (T 0 9).toNat := hu9
        refine ge_lveq (lv' := [(0, .ref (a 0)), (2, .ref ad), (4, zz_v days), (5, .ref q1), (6, .ref q2), (8, zz_v 1), (9, zz_v (u : Int))]) rfl ?_
        refine ge_eq (U' := (T3, T3, V5)) rfl ?_
        refine ge_sup (k' := 14 + 6 * (T 0 9).toNat + 4 * u) rfl ?_
        refine ge_iload hC dL_passes_161 (j := 6) rfl ?_
        refine ge_aload_n hC dL_passes_163 rfl (j := 1) rfl ?_
        refine ge_iconst hC dL_passes_164 ?_
        refine ge_iald hC hK (q := 0) (j := 2) (Nat.le_of_ble_eq_true rfl) rfl rfl (by decide) dL_passes_165 (fun _ => ?_)
        refine ge_top (y := T 0 9) dV5_2 ?_
        refine ge_icmp_ge hC dL_passes_166 (tgt := 274) (by decide) ⟨by omega, by omega⟩ ⟨by omega, by omega⟩ (fun c7 => ?_) (fun c7 => ?_)
        · skip
          refine ge_iload hC dL_passes_274 (j := 5) rfl ?_
          refine ge_forget (nA := [ad] ++ [q1]) ?_
          refine ge_forget (nA := [ad]) ?_
          exact ge_ireturn hC hr rfl hlk dL_passes_276 (show _ ≤ 240 by omega) ⟨rfl, T3, V5, rfl, zi_wide (Nat.le_add_right _ _) j1, by unfold zi_V; first | omega | (refine ⟨?_, ?_, ?_, ?_⟩ <;> omega)⟩
        · skip
          refine ge_iload hC dL_passes_169 (j := 5) rfl ?_
          refine ge_if_eq hC dL_passes_171 (tgt := 274) (by decide) ⟨by decide, by decide⟩ (fun c8 => (by omega)) (fun c8 => ?_)
          obtain ⟨g2, g1⟩ := jr u (by omega)
          obtain ⟨l1, l2⟩ := hL u (by omega)
          rw [← wV5_1] at l1
          rw [← wV5_2] at l2
          obtain ⟨h1, h2, h3, h4, h5, h6, h7, h8, h9, h10, h11, h12⟩ := hH.2 u (by omega)
          clear h4 h6 h7 h8 h9 h10 h11 h12 h1
          have hxx : 0 ≤ zk_x T u ∧ zk_x T u ≤ 12 := by unfold zk_x; omega
          refine ge_aload hC dL_passes_174 (j := 4) rfl ?_
          refine ge_iload hC dL_passes_176 (j := 6) rfl ?_
          refine ge_iald hC hK (q := 2) (j := u) (Nat.le_of_ble_eq_true rfl) rfl rfl (show _ < 16 by omega) dL_passes_178 (fun v9r => ?_)
          refine ge_top (y := V5 2 u) rfl ?_
          have v9s : zz_R (V5 2 u) := v9r
          refine ge_if_ne hC dL_passes_179 (tgt := 207) (by decide) v9s (fun c10 => ?_) (fun c10 => ?_)
          · skip
            refine ge_aload hC dL_passes_207 (j := 3) rfl ?_
            refine ge_iload hC dL_passes_209 (j := 6) rfl ?_
            refine ge_iald hC hK (q := 1) (j := u) (Nat.le_of_ble_eq_true rfl) rfl rfl (show _ < 16 by omega) dL_passes_211 (fun v11r => ?_)
            refine ge_top (y := V5 1 u) rfl ?_
            have v11s : zz_R (V5 1 u) := v11r
            refine ge_istore hC dL_passes_212 (by decide) (lv' := [(10, zz_v (V5 1 u)), (0, .ref (a 0)), (2, .ref ad), (4, zz_v days), (5, .ref q1), (6, .ref q2), (8, zz_v 1), (9, zz_v (u : Int))]) rfl ?_
            refine ge_aload_n hC dL_passes_214 rfl (j := 1) rfl ?_
            refine ge_iload hC dL_passes_215 (j := 7) rfl ?_
            refine ge_iconst hC dL_passes_217 ?_
            refine ge_ask (As := [zz_v (u : Int), zz_v 2]) (rest := []) hC hF (c_X3_about l hl9 N0 _ Y a T3 (u : Int) 2 ⟨by omega, by omega⟩ ⟨by decide, by decide⟩ ICT3) (by refine ⟨?_, ?_, ?_⟩ <;> first | omega | exact fun z => z) (cwV 2 hts gL_passes_X3_about rfl rfl rfl (by decide +kernel) ⟨by decide, by decide⟩) rfl rfl (Nat.le_of_ble_eq_true rfl) dL_passes_218 ⟨show _ ≤ 240 by omega, show _ ≤ 1440 by omega⟩ (fun _ q12r => ?_)
            obtain ⟨a13, a13e⟩ : ∃ a13 : Int, a13 = zz_ab T3 (u : Int).toNat 2 := ⟨_, rfl⟩
            have a13r : zz_R a13 := by rw [a13e]; exact q12r
            refine ge_top (y := a13) a13e.symm ?_
            clear q12r
            have a13q : a13 = T3 (61 + u) 2 := by rw [a13e]; rfl
            have a13d : a13 = V5 1 u := by rw [a13q, g2, zk_due_x, ← l1, ← l2]; omega
            refine ge_iload hC dL_passes_221 (j := 0) rfl ?_
            refine ge_icmp_ne hC dL_passes_223 (tgt := 265) (by decide) a13r v11s (fun c14 => (by omega)) (fun c14 => ?_)
            refine ge_aload_n hC dL_passes_226 rfl (j := 1) rfl ?_
            refine ge_iload hC dL_passes_227 (j := 7) rfl ?_
            refine ge_iconst hC dL_passes_229 ?_
            refine ge_ask (As := [zz_v (u : Int), zz_v 0]) (rest := []) hC hF (c_X3_about l hl9 N0 _ Y a T3 (u : Int) 0 ⟨by omega, by omega⟩ ⟨by decide, by decide⟩ ICT3) (by refine ⟨?_, ?_, ?_⟩ <;> first | omega | exact fun z => z) (cwV 2 hts gL_passes_X3_about rfl rfl rfl (by decide +kernel) ⟨by decide, by decide⟩) rfl rfl (Nat.le_of_ble_eq_true rfl) dL_passes_230 ⟨show _ ≤ 240 by omega, show _ ≤ 1440 by omega⟩ (fun _ q15r => ?_)
            obtain ⟨a16, a16e⟩ : ∃ a16 : Int, a16 = zz_ab T3 (u : Int).toNat 0 := ⟨_, rfl⟩
            have a16r : zz_R a16 := by rw [a16e]; exact q15r
            refine ge_top (y := a16) a16e.symm ?_
            clear q15r
            have a16q : a16 = T3 (61 + u) 1 := by rw [a16e]; rfl
            have a16d : (V5 2 u = 0 ∧ (V5 1 u : Int) = 0 → a16 = 2) ∧ (¬ (V5 2 u = 0 ∧ (V5 1 u : Int) = 0) → a16 = V5 2 u % 10) := by rw [a16q, g1, zk_sta_x, ← g2, ← a13q, a13d, ← l2]; exact ⟨fun z => if_pos z, fun z => if_neg z⟩
            refine ge_aload hC dL_passes_233 (j := 5) rfl ?_
            refine ge_iload hC dL_passes_235 (j := 7) rfl ?_
            refine ge_iald hC hK (q := 2) (j := u) (Nat.le_of_ble_eq_true rfl) rfl rfl (show _ < 16 by omega) dL_passes_237 (fun v17r => ?_)
            refine ge_top (y := V5 2 u) rfl ?_
            have v17s : zz_R (V5 2 u) := v17r
            refine ge_if_ne hC dL_passes_238 (tgt := 250) (by decide) v17s (fun c18 => ?_) (fun c18 => ?_)
            · skip
              refine ge_aload hC dL_passes_250 (j := 5) rfl ?_
              refine ge_iload hC dL_passes_252 (j := 7) rfl ?_
              refine ge_iald hC hK (q := 2) (j := u) (Nat.le_of_ble_eq_true rfl) rfl rfl (show _ < 16 by omega) dL_passes_254 (fun v19r => ?_)
              refine ge_top (y := V5 2 u) rfl ?_
              have v19s : zz_R (V5 2 u) := v19r
              refine ge_bipush hC dL_passes_255 rfl ?_
              refine ge_irem hC dL_passes_257 ⟨by omega, by omega⟩ ⟨by omega, by omega⟩ ?_
              refine ge_icmp_ne hC dL_passes_258 (tgt := 265) (by decide) a16r ⟨by omega, by omega⟩ (fun c20 => (by omega)) (fun c20 => ?_)
              refine ge_iconst hC dL_passes_261 ?_
              refine ge_goto hC dL_passes_262 (tgt := 266) (by decide) ?_
              refine ge_istore hC dL_passes_266 (by decide) (lv' := [(8, zz_v 1), (10, zz_v (V5 1 u)), (0, .ref (a 0)), (2, .ref ad), (4, zz_v days), (5, .ref q1), (6, .ref q2), (9, zz_v (u : Int))]) rfl ?_
              refine ge_iinc hC dL_passes_268 (j := 7) rfl (y := ((u + 1 : Nat) : Int)) (by omega) (by decide) (lv' := [(9, zz_v ((u + 1 : Nat) : Int)), (8, zz_v 1), (10, zz_v (V5 1 u)), (0, .ref (a 0)), (2, .ref ad), (4, zz_v days), (5, .ref q1), (6, .ref q2)]) rfl ?_
              refine ge_goto hC dL_passes_271 (tgt := 161) (by decide) ?_
              refine ge_sub [3, 4, 5, 6, 7, 1, 0] (lv' := [(0, .ref (a 0)), (2, .ref ad), (4, zz_v days), (5, .ref q1), (6, .ref q2), (8, zz_v 1), (9, zz_v ((u + 1 : Nat) : Int))]) rfl ?_
              refine ge_sup (k' := 14 + 6 * (T 0 9).toNat + 4 * (u + 1)) (by omega) ?_
              exact ih161 (u + 1) (show u + 1 ≤ (T 0 9).toNat by omega) (show (T 0 9).toNat - (u + 1) < (T 0 9).toNat - u by omega)
            · skip
              refine ge_iload hC dL_passes_241 (j := 0) rfl ?_
              refine ge_if_ne hC dL_passes_243 (tgt := 250) (by decide) v11s (fun c21 => ?_) (fun c21 => ?_)
              · skip
                refine ge_aload hC dL_passes_250 (j := 5) rfl ?_
                refine ge_iload hC dL_passes_252 (j := 7) rfl ?_
                refine ge_iald hC hK (q := 2) (j := u) (Nat.le_of_ble_eq_true rfl) rfl rfl (show _ < 16 by omega) dL_passes_254 (fun v22r => ?_)
                refine ge_top (y := V5 2 u) rfl ?_
                have v22s : zz_R (V5 2 u) := v22r
                refine ge_bipush hC dL_passes_255 rfl ?_
                refine ge_irem hC dL_passes_257 ⟨by omega, by omega⟩ ⟨by omega, by omega⟩ ?_
                refine ge_icmp_ne hC dL_passes_258 (tgt := 265) (by decide) a16r ⟨by omega, by omega⟩ (fun c23 => (by omega)) (fun c23 => ?_)
                refine ge_iconst hC dL_passes_261 ?_
                refine ge_goto hC dL_passes_262 (tgt := 266) (by decide) ?_
                refine ge_istore hC dL_passes_266 (by decide) (lv' := [(8, zz_v 1), (10, zz_v (V5 1 u)), (0, .ref (a 0)), (2, .ref ad), (4, zz_v days), (5, .ref q1), (6, .ref q2), (9, zz_v (u : Int))]) rfl ?_
                refine ge_iinc hC dL_passes_268 (j := 7) rfl (y := ((u + 1 : Nat) : Int)) (by omega) (by decide) (lv' := [(9, zz_v ((u + 1 : Nat) : Int)), (8, zz_v 1), (10, zz_v (V5 1 u)), (0, .ref (a 0)), (2, .ref ad), (4, zz_v days), (5, .ref q1), (6, .ref q2)]) rfl ?_
                refine ge_goto hC dL_passes_271 (tgt := 161) (by decide) ?_
                refine ge_sub [3, 4, 5, 6, 7, 1, 0] (lv' := [(0, .ref (a 0)), (2, .ref ad), (4, zz_v days), (5, .ref q1), (6, .ref q2), (8, zz_v 1), (9, zz_v ((u + 1 : Nat) : Int))]) rfl ?_
                refine ge_sup (k' := 14 + 6 * (T 0 9).toNat + 4 * (u + 1)) (by omega) ?_
                exact ih161 (u + 1) (show u + 1 ≤ (T 0 9).toNat by omega) (show (T 0 9).toNat - (u + 1) < (T 0 9).toNat - u by omega)
              · skip
                refine ge_iconst hC dL_passes_246 ?_
                refine ge_goto hC dL_passes_247 (tgt := 258) (by decide) ?_
                refine ge_icmp_ne hC dL_passes_258 (tgt := 265) (by decide) a16r ⟨by decide, by decide⟩ (fun c24 => (by omega)) (fun c24 => ?_)
                refine ge_iconst hC dL_passes_261 ?_
                refine ge_goto hC dL_passes_262 (tgt := 266) (by decide) ?_
                refine ge_istore hC dL_passes_266 (by decide) (lv' := [(8, zz_v 1), (10, zz_v (V5 1 u)), (0, .ref (a 0)), (2, .ref ad), (4, zz_v days), (5, .ref q1), (6, .ref q2), (9, zz_v (u : Int))]) rfl ?_
                refine ge_iinc hC dL_passes_268 (j := 7) rfl (y := ((u + 1 : Nat) : Int)) (by omega) (by decide) (lv' := [(9, zz_v ((u + 1 : Nat) : Int)), (8, zz_v 1), (10, zz_v (V5 1 u)), (0, .ref (a 0)), (2, .ref ad), (4, zz_v days), (5, .ref q1), (6, .ref q2)]) rfl ?_
                refine ge_goto hC dL_passes_271 (tgt := 161) (by decide) ?_
                refine ge_sub [3, 4, 5, 6, 7, 1, 0] (lv' := [(0, .ref (a 0)), (2, .ref ad), (4, zz_v days), (5, .ref q1), (6, .ref q2), (8, zz_v 1), (9, zz_v ((u + 1 : Nat) : Int))]) rfl ?_
                refine ge_sup (k' := 14 + 6 * (T 0 9).toNat + 4 * (u + 1)) (by omega) ?_
                exact ih161 (u + 1) (show u + 1 ≤ (T 0 9).toNat by omega) (show (T 0 9).toNat - (u + 1) < (T 0 9).toNat - u by omega)
          · skip
            refine ge_aload hC dL_passes_182 (j := 3) rfl ?_
            refine ge_iload hC dL_passes_184 (j := 6) rfl ?_
            refine ge_iald hC hK (q := 1) (j := u) (Nat.le_of_ble_eq_true rfl) rfl rfl (show _ < 16 by omega) dL_passes_186 (fun v25r => ?_)
            refine ge_top (y := V5 1 u) rfl ?_
            have v25s : zz_R (V5 1 u) := v25r
            refine ge_iload hC dL_passes_187 (j := 2) rfl ?_
            refine ge_icmp_ge hC dL_passes_189 (tgt := 196) (by decide) v25s ⟨by omega, by omega⟩ (fun c26 => ?_) (fun c26 => ?_)
            · skip
              refine ge_aload hC dL_passes_196 (j := 3) rfl ?_
              refine ge_iload hC dL_passes_198 (j := 6) rfl ?_
              refine ge_iald hC hK (q := 1) (j := u) (Nat.le_of_ble_eq_true rfl) rfl rfl (show _ < 16 by omega) dL_passes_200 (fun v27r => ?_)
              refine ge_top (y := V5 1 u) rfl ?_
              have v27s : zz_R (V5 1 u) := v27r
              refine ge_iload hC dL_passes_201 (j := 2) rfl ?_
              refine ge_isub hC dL_passes_203 ?_
              refine ge_goto hC dL_passes_204 (tgt := 212) (by decide) ?_
              refine ge_istore hC dL_passes_212 (by decide) (lv' := [(10, zz_v ((V5 1 u) - days)), (0, .ref (a 0)), (2, .ref ad), (4, zz_v days), (5, .ref q1), (6, .ref q2), (8, zz_v 1), (9, zz_v (u : Int))]) rfl ?_
              refine ge_aload_n hC dL_passes_214 rfl (j := 1) rfl ?_
              refine ge_iload hC dL_passes_215 (j := 7) rfl ?_
              refine ge_iconst hC dL_passes_217 ?_
              refine ge_ask (As := [zz_v (u : Int), zz_v 2]) (rest := []) hC hF (c_X3_about l hl9 N0 _ Y a T3 (u : Int) 2 ⟨by omega, by omega⟩ ⟨by decide, by decide⟩ ICT3) (by refine ⟨?_, ?_, ?_⟩ <;> first | omega | exact fun z => z) (cwV 2 hts gL_passes_X3_about rfl rfl rfl (by decide +kernel) ⟨by decide, by decide⟩) rfl rfl (Nat.le_of_ble_eq_true rfl) dL_passes_218 ⟨show _ ≤ 240 by omega, show _ ≤ 1440 by omega⟩ (fun _ q28r => ?_)
              obtain ⟨a29, a29e⟩ : ∃ a29 : Int, a29 = zz_ab T3 (u : Int).toNat 2 := ⟨_, rfl⟩
              have a29r : zz_R a29 := by rw [a29e]; exact q28r
              refine ge_top (y := a29) a29e.symm ?_
              clear q28r
              have a29q : a29 = T3 (61 + u) 2 := by rw [a29e]; rfl
              have a29d : a29 = (V5 1 u) - days := by rw [a29q, g2, zk_due_x, ← l1, ← l2]; omega
              refine ge_iload hC dL_passes_221 (j := 0) rfl ?_
              refine ge_icmp_ne hC dL_passes_223 (tgt := 265) (by decide) a29r ⟨by omega, by omega⟩ (fun c30 => (by omega)) (fun c30 => ?_)
              refine ge_aload_n hC dL_passes_226 rfl (j := 1) rfl ?_
              refine ge_iload hC dL_passes_227 (j := 7) rfl ?_
              refine ge_iconst hC dL_passes_229 ?_
              refine ge_ask (As := [zz_v (u : Int), zz_v 0]) (rest := []) hC hF (c_X3_about l hl9 N0 _ Y a T3 (u : Int) 0 ⟨by omega, by omega⟩ ⟨by decide, by decide⟩ ICT3) (by refine ⟨?_, ?_, ?_⟩ <;> first | omega | exact fun z => z) (cwV 2 hts gL_passes_X3_about rfl rfl rfl (by decide +kernel) ⟨by decide, by decide⟩) rfl rfl (Nat.le_of_ble_eq_true rfl) dL_passes_230 ⟨show _ ≤ 240 by omega, show _ ≤ 1440 by omega⟩ (fun _ q31r => ?_)
              obtain ⟨a32, a32e⟩ : ∃ a32 : Int, a32 = zz_ab T3 (u : Int).toNat 0 := ⟨_, rfl⟩
              have a32r : zz_R a32 := by rw [a32e]; exact q31r
              refine ge_top (y := a32) a32e.symm ?_
              clear q31r
              have a32q : a32 = T3 (61 + u) 1 := by rw [a32e]; rfl
              have a32d : (V5 2 u = 0 ∧ ((V5 1 u) - days : Int) = 0 → a32 = 2) ∧ (¬ (V5 2 u = 0 ∧ ((V5 1 u) - days : Int) = 0) → a32 = V5 2 u % 10) := by rw [a32q, g1, zk_sta_x, ← g2, ← a29q, a29d, ← l2]; exact ⟨fun z => if_pos z, fun z => if_neg z⟩
              refine ge_aload hC dL_passes_233 (j := 5) rfl ?_
              refine ge_iload hC dL_passes_235 (j := 7) rfl ?_
              refine ge_iald hC hK (q := 2) (j := u) (Nat.le_of_ble_eq_true rfl) rfl rfl (show _ < 16 by omega) dL_passes_237 (fun v33r => ?_)
              refine ge_top (y := V5 2 u) rfl ?_
              have v33s : zz_R (V5 2 u) := v33r
              refine ge_if_ne hC dL_passes_238 (tgt := 250) (by decide) v33s (fun c34 => ?_) (fun c34 => ?_)
              · skip
                refine ge_aload hC dL_passes_250 (j := 5) rfl ?_
                refine ge_iload hC dL_passes_252 (j := 7) rfl ?_
                refine ge_iald hC hK (q := 2) (j := u) (Nat.le_of_ble_eq_true rfl) rfl rfl (show _ < 16 by omega) dL_passes_254 (fun v35r => ?_)
                refine ge_top (y := V5 2 u) rfl ?_
                have v35s : zz_R (V5 2 u) := v35r
                refine ge_bipush hC dL_passes_255 rfl ?_
                refine ge_irem hC dL_passes_257 ⟨by omega, by omega⟩ ⟨by omega, by omega⟩ ?_
                refine ge_icmp_ne hC dL_passes_258 (tgt := 265) (by decide) a32r ⟨by omega, by omega⟩ (fun c36 => (by omega)) (fun c36 => ?_)
                refine ge_iconst hC dL_passes_261 ?_
                refine ge_goto hC dL_passes_262 (tgt := 266) (by decide) ?_
                refine ge_istore hC dL_passes_266 (by decide) (lv' := [(8, zz_v 1), (10, zz_v ((V5 1 u) - days)), (0, .ref (a 0)), (2, .ref ad), (4, zz_v days), (5, .ref q1), (6, .ref q2), (9, zz_v (u : Int))]) rfl ?_
                refine ge_iinc hC dL_passes_268 (j := 7) rfl (y := ((u + 1 : Nat) : Int)) (by omega) (by decide) (lv' := [(9, zz_v ((u + 1 : Nat) : Int)), (8, zz_v 1), (10, zz_v ((V5 1 u) - days)), (0, .ref (a 0)), (2, .ref ad), (4, zz_v days), (5, .ref q1), (6, .ref q2)]) rfl ?_
                refine ge_goto hC dL_passes_271 (tgt := 161) (by decide) ?_
                refine ge_sub [3, 4, 5, 6, 7, 1, 0] (lv' := [(0, .ref (a 0)), (2, .ref ad), (4, zz_v days), (5, .ref q1), (6, .ref q2), (8, zz_v 1), (9, zz_v ((u + 1 : Nat) : Int))]) rfl ?_
                refine ge_sup (k' := 14 + 6 * (T 0 9).toNat + 4 * (u + 1)) (by omega) ?_
                exact ih161 (u + 1) (show u + 1 ≤ (T 0 9).toNat by omega) (show (T 0 9).toNat - (u + 1) < (T 0 9).toNat - u by omega)
              · skip
                refine ge_iload hC dL_passes_241 (j := 0) rfl ?_
                refine ge_if_ne hC dL_passes_243 (tgt := 250) (by decide) ⟨by omega, by omega⟩ (fun c37 => ?_) (fun c37 => ?_)
                · skip
                  refine ge_aload hC dL_passes_250 (j := 5) rfl ?_
                  refine ge_iload hC dL_passes_252 (j := 7) rfl ?_
                  refine ge_iald hC hK (q := 2) (j := u) (Nat.le_of_ble_eq_true rfl) rfl rfl (show _ < 16 by omega) dL_passes_254 (fun v38r => ?_)
                  refine ge_top (y := V5 2 u) rfl ?_
                  have v38s : zz_R (V5 2 u) := v38r
                  refine ge_bipush hC dL_passes_255 rfl ?_
                  refine ge_irem hC dL_passes_257 ⟨by omega, by omega⟩ ⟨by omega, by omega⟩ ?_
                  refine ge_icmp_ne hC dL_passes_258 (tgt := 265) (by decide) a32r ⟨by omega, by omega⟩ (fun c39 => (by omega)) (fun c39 => ?_)
                  refine ge_iconst hC dL_passes_261 ?_
                  refine ge_goto hC dL_passes_262 (tgt := 266) (by decide) ?_
                  refine ge_istore hC dL_passes_266 (by decide) (lv' := [(8, zz_v 1), (10, zz_v ((V5 1 u) - days)), (0, .ref (a 0)), (2, .ref ad), (4, zz_v days), (5, .ref q1), (6, .ref q2), (9, zz_v (u : Int))]) rfl ?_
                  refine ge_iinc hC dL_passes_268 (j := 7) rfl (y := ((u + 1 : Nat) : Int)) (by omega) (by decide) (lv' := [(9, zz_v ((u + 1 : Nat) : Int)), (8, zz_v 1), (10, zz_v ((V5 1 u) - days)), (0, .ref (a 0)), (2, .ref ad), (4, zz_v days), (5, .ref q1), (6, .ref q2)]) rfl ?_
                  refine ge_goto hC dL_passes_271 (tgt := 161) (by decide) ?_
                  refine ge_sub [3, 4, 5, 6, 7, 1, 0] (lv' := [(0, .ref (a 0)), (2, .ref ad), (4, zz_v days), (5, .ref q1), (6, .ref q2), (8, zz_v 1), (9, zz_v ((u + 1 : Nat) : Int))]) rfl ?_
                  refine ge_sup (k' := 14 + 6 * (T 0 9).toNat + 4 * (u + 1)) (by omega) ?_
                  exact ih161 (u + 1) (show u + 1 ≤ (T 0 9).toNat by omega) (show (T 0 9).toNat - (u + 1) < (T 0 9).toNat - u by omega)
                · skip
                  refine ge_iconst hC dL_passes_246 ?_
                  refine ge_goto hC dL_passes_247 (tgt := 258) (by decide) ?_
                  refine ge_icmp_ne hC dL_passes_258 (tgt := 265) (by decide) a32r ⟨by decide, by decide⟩ (fun c40 => (by omega)) (fun c40 => ?_)
                  refine ge_iconst hC dL_passes_261 ?_
                  refine ge_goto hC dL_passes_262 (tgt := 266) (by decide) ?_
                  refine ge_istore hC dL_passes_266 (by decide) (lv' := [(8, zz_v 1), (10, zz_v ((V5 1 u) - days)), (0, .ref (a 0)), (2, .ref ad), (4, zz_v days), (5, .ref q1), (6, .ref q2), (9, zz_v (u : Int))]) rfl ?_
                  refine ge_iinc hC dL_passes_268 (j := 7) rfl (y := ((u + 1 : Nat) : Int)) (by omega) (by decide) (lv' := [(9, zz_v ((u + 1 : Nat) : Int)), (8, zz_v 1), (10, zz_v ((V5 1 u) - days)), (0, .ref (a 0)), (2, .ref ad), (4, zz_v days), (5, .ref q1), (6, .ref q2)]) rfl ?_
                  refine ge_goto hC dL_passes_271 (tgt := 161) (by decide) ?_
                  refine ge_sub [3, 4, 5, 6, 7, 1, 0] (lv' := [(0, .ref (a 0)), (2, .ref ad), (4, zz_v days), (5, .ref q1), (6, .ref q2), (8, zz_v 1), (9, zz_v ((u + 1 : Nat) : Int))]) rfl ?_
                  refine ge_sup (k' := 14 + 6 * (T 0 9).toNat + 4 * (u + 1)) (by omega) ?_
                  exact ih161 (u + 1) (show u + 1 ≤ (T 0 9).toNat by omega) (show (T 0 9).toNat - (u + 1) < (T 0 9).toNat - u by omega)
            · skip
              refine ge_iconst hC dL_passes_192 ?_
              refine ge_goto hC dL_passes_193 (tgt := 212) (by decide) ?_
              refine ge_istore hC dL_passes_212 (by decide) (lv' := [(10, zz_v 0), (0, .ref (a 0)), (2, .ref ad), (4, zz_v days), (5, .ref q1), (6, .ref q2), (8, zz_v 1), (9, zz_v (u : Int))]) rfl ?_
              refine ge_aload_n hC dL_passes_214 rfl (j := 1) rfl ?_
              refine ge_iload hC dL_passes_215 (j := 7) rfl ?_
              refine ge_iconst hC dL_passes_217 ?_
              refine ge_ask (As := [zz_v (u : Int), zz_v 2]) (rest := []) hC hF (c_X3_about l hl9 N0 _ Y a T3 (u : Int) 2 ⟨by omega, by omega⟩ ⟨by decide, by decide⟩ ICT3) (by refine ⟨?_, ?_, ?_⟩ <;> first | omega | exact fun z => z) (cwV 2 hts gL_passes_X3_about rfl rfl rfl (by decide +kernel) ⟨by decide, by decide⟩) rfl rfl (Nat.le_of_ble_eq_true rfl) dL_passes_218 ⟨show _ ≤ 240 by omega, show _ ≤ 1440 by omega⟩ (fun _ q41r => ?_)
              obtain ⟨a42, a42e⟩ : ∃ a42 : Int, a42 = zz_ab T3 (u : Int).toNat 2 := ⟨_, rfl⟩
              have a42r : zz_R a42 := by rw [a42e]; exact q41r
              refine ge_top (y := a42) a42e.symm ?_
              clear q41r
              have a42q : a42 = T3 (61 + u) 2 := by rw [a42e]; rfl
              have a42d : a42 = 0 := by rw [a42q, g2, zk_due_x, ← l1, ← l2]; omega
              refine ge_iload hC dL_passes_221 (j := 0) rfl ?_
              refine ge_icmp_ne hC dL_passes_223 (tgt := 265) (by decide) a42r ⟨by decide, by decide⟩ (fun c43 => (by omega)) (fun c43 => ?_)
              refine ge_aload_n hC dL_passes_226 rfl (j := 1) rfl ?_
              refine ge_iload hC dL_passes_227 (j := 7) rfl ?_
              refine ge_iconst hC dL_passes_229 ?_
              refine ge_ask (As := [zz_v (u : Int), zz_v 0]) (rest := []) hC hF (c_X3_about l hl9 N0 _ Y a T3 (u : Int) 0 ⟨by omega, by omega⟩ ⟨by decide, by decide⟩ ICT3) (by refine ⟨?_, ?_, ?_⟩ <;> first | omega | exact fun z => z) (cwV 2 hts gL_passes_X3_about rfl rfl rfl (by decide +kernel) ⟨by decide, by decide⟩) rfl rfl (Nat.le_of_ble_eq_true rfl) dL_passes_230 ⟨show _ ≤ 240 by omega, show _ ≤ 1440 by omega⟩ (fun _ q44r => ?_)
              obtain ⟨a45, a45e⟩ : ∃ a45 : Int, a45 = zz_ab T3 (u : Int).toNat 0 := ⟨_, rfl⟩
              have a45r : zz_R a45 := by rw [a45e]; exact q44r
              refine ge_top (y := a45) a45e.symm ?_
              clear q44r
              have a45q : a45 = T3 (61 + u) 1 := by rw [a45e]; rfl
              have a45d : (V5 2 u = 0 ∧ (0 : Int) = 0 → a45 = 2) ∧ (¬ (V5 2 u = 0 ∧ (0 : Int) = 0) → a45 = V5 2 u % 10) := by rw [a45q, g1, zk_sta_x, ← g2, ← a42q, a42d, ← l2]; exact ⟨fun z => if_pos z, fun z => if_neg z⟩
              refine ge_aload hC dL_passes_233 (j := 5) rfl ?_
              refine ge_iload hC dL_passes_235 (j := 7) rfl ?_
              refine ge_iald hC hK (q := 2) (j := u) (Nat.le_of_ble_eq_true rfl) rfl rfl (show _ < 16 by omega) dL_passes_237 (fun v46r => ?_)
              refine ge_top (y := V5 2 u) rfl ?_
              have v46s : zz_R (V5 2 u) := v46r
              refine ge_if_ne hC dL_passes_238 (tgt := 250) (by decide) v46s (fun c47 => ?_) (fun c47 => ?_)
              · skip
                refine ge_aload hC dL_passes_250 (j := 5) rfl ?_
                refine ge_iload hC dL_passes_252 (j := 7) rfl ?_
                refine ge_iald hC hK (q := 2) (j := u) (Nat.le_of_ble_eq_true rfl) rfl rfl (show _ < 16 by omega) dL_passes_254 (fun v48r => ?_)
                refine ge_top (y := V5 2 u) rfl ?_
                have v48s : zz_R (V5 2 u) := v48r
                refine ge_bipush hC dL_passes_255 rfl ?_
                refine ge_irem hC dL_passes_257 ⟨by omega, by omega⟩ ⟨by omega, by omega⟩ ?_
                refine ge_icmp_ne hC dL_passes_258 (tgt := 265) (by decide) a45r ⟨by omega, by omega⟩ (fun c49 => (by omega)) (fun c49 => ?_)
                refine ge_iconst hC dL_passes_261 ?_
                refine ge_goto hC dL_passes_262 (tgt := 266) (by decide) ?_
                refine ge_istore hC dL_passes_266 (by decide) (lv' := [(8, zz_v 1), (10, zz_v 0), (0, .ref (a 0)), (2, .ref ad), (4, zz_v days), (5, .ref q1), (6, .ref q2), (9, zz_v (u : Int))]) rfl ?_
                refine ge_iinc hC dL_passes_268 (j := 7) rfl (y := ((u + 1 : Nat) : Int)) (by omega) (by decide) (lv' := [(9, zz_v ((u + 1 : Nat) : Int)), (8, zz_v 1), (10, zz_v 0), (0, .ref (a 0)), (2, .ref ad), (4, zz_v days), (5, .ref q1), (6, .ref q2)]) rfl ?_
                refine ge_goto hC dL_passes_271 (tgt := 161) (by decide) ?_
                refine ge_sub [3, 4, 5, 6, 7, 1, 0] (lv' := [(0, .ref (a 0)), (2, .ref ad), (4, zz_v days), (5, .ref q1), (6, .ref q2), (8, zz_v 1), (9, zz_v ((u + 1 : Nat) : Int))]) rfl ?_
                refine ge_sup (k' := 14 + 6 * (T 0 9).toNat + 4 * (u + 1)) (by omega) ?_
                exact ih161 (u + 1) (show u + 1 ≤ (T 0 9).toNat by omega) (show (T 0 9).toNat - (u + 1) < (T 0 9).toNat - u by omega)
              · skip
                refine ge_iload hC dL_passes_241 (j := 0) rfl ?_
                refine ge_if_ne hC dL_passes_243 (tgt := 250) (by decide) ⟨by decide, by decide⟩ (fun c50 => (by omega)) (fun c50 => ?_)
                refine ge_iconst hC dL_passes_246 ?_
                refine ge_goto hC dL_passes_247 (tgt := 258) (by decide) ?_
                refine ge_icmp_ne hC dL_passes_258 (tgt := 265) (by decide) a45r ⟨by decide, by decide⟩ (fun c51 => (by omega)) (fun c51 => ?_)
                refine ge_iconst hC dL_passes_261 ?_
                refine ge_goto hC dL_passes_262 (tgt := 266) (by decide) ?_
                refine ge_istore hC dL_passes_266 (by decide) (lv' := [(8, zz_v 1), (10, zz_v 0), (0, .ref (a 0)), (2, .ref ad), (4, zz_v days), (5, .ref q1), (6, .ref q2), (9, zz_v (u : Int))]) rfl ?_
                refine ge_iinc hC dL_passes_268 (j := 7) rfl (y := ((u + 1 : Nat) : Int)) (by omega) (by decide) (lv' := [(9, zz_v ((u + 1 : Nat) : Int)), (8, zz_v 1), (10, zz_v 0), (0, .ref (a 0)), (2, .ref ad), (4, zz_v days), (5, .ref q1), (6, .ref q2)]) rfl ?_
                refine ge_goto hC dL_passes_271 (tgt := 161) (by decide) ?_
                refine ge_sub [3, 4, 5, 6, 7, 1, 0] (lv' := [(0, .ref (a 0)), (2, .ref ad), (4, zz_v days), (5, .ref q1), (6, .ref q2), (8, zz_v 1), (9, zz_v ((u + 1 : Nat) : Int))]) rfl ?_
                refine ge_sup (k' := 14 + 6 * (T 0 9).toNat + 4 * (u + 1)) (by omega) ?_
                exact ih161 (u + 1) (show u + 1 ≤ (T 0 9).toNat by omega) (show (T 0 9).toNat - (u + 1) < (T 0 9).toNat - u by omega)
      · exfalso; first | omega | exact hwF
      · exfalso; first | omega | exact hwF
      · skip
        rw [r2e, hT]
        refine ge_istore hC dL_passes_108 (by decide) (lv' := [(7, zz_v (-2000000003)), (0, .ref (a 0)), (1, .ref (a 77)), (2, .ref ad), (4, zz_v days), (5, .ref q1), (6, .ref q2)]) rfl ?_
        refine ge_iload hC dL_passes_110 (j := 0) rfl ?_
        refine ge_ldc hC (n := -2000000003) k23 dL_passes_112 ?_
        refine ge_icmp_ne hC dL_passes_114 (tgt := 135) (by decide) ⟨by decide, by decide⟩ ⟨by decide, by decide⟩ (fun c52 => (by omega)) (fun c52 => ?_)
        refine ge_aload_n hC dL_passes_117 rfl (j := 3) rfl ?_
        refine ge_iconst hC dL_passes_118 ?_
        refine ge_iald hC hK (q := 0) (j := 3) (Nat.le_of_ble_eq_true rfl) rfl rfl (by decide) dL_passes_119 (fun _ => ?_)
        refine ge_top (y := T 0 10) hVL.2.2.2 ?_
        refine ge_iload hC dL_passes_120 (j := 4) rfl ?_
        refine ge_iadd hC dL_passes_122 ?_
        refine ge_sipush hC dL_passes_123 rfl ?_
        refine ge_icmp_le hC dL_passes_126 (tgt := 133) (by decide) ⟨by omega, by omega⟩ ⟨by decide, by decide⟩ (fun c53 => (by omega)) (fun c53 => ?_)
        refine ge_iconst hC dL_passes_129 ?_
        refine ge_goto hC dL_passes_130 (tgt := 134) (by decide) ?_
        refine ge_forget (nA := [ad] ++ [q1]) ?_
        refine ge_forget (nA := [ad]) ?_
        exact ge_ireturn hC hr rfl hlk dL_passes_134 (show _ ≤ 240 by omega) ⟨rfl, T, L, rfl, zi_wide (Nat.le_add_right _ _) hI, by unfold zi_V; first | omega | (refine ⟨?_, ?_, ?_, ?_⟩ <;> omega)⟩
    · skip
      have hst := (hH.2 i (by omega)).2.1
      refine ge_aload hC dL_passes_56 (j := 4) rfl ?_
      refine ge_iload hC dL_passes_58 (j := 6) rfl ?_
      refine ge_aload_n hC dL_passes_60 rfl (j := 0) rfl ?_
      refine ge_iload hC dL_passes_61 (j := 6) rfl ?_
      refine ge_iconst hC dL_passes_63 ?_
      refine ge_ask (As := [zz_v (i : Int), zz_v 2]) (rest := [zz_v (i : Int), .ref q1]) hC hF (c_X3_about l hl9 N0 _ Y a T (i : Int) 2 ⟨by omega, by omega⟩ ⟨by decide, by decide⟩ hIC) (by refine ⟨?_, ?_, ?_⟩ <;> first | omega | exact fun z => z) (cwV 2 hts gL_passes_X3_about rfl rfl rfl (by decide +kernel) ⟨by decide, by decide⟩) rfl rfl (Nat.le_of_ble_eq_true rfl) dL_passes_64 ⟨show _ ≤ 240 by omega, show _ ≤ 1440 by omega⟩ (fun _ q54r => ?_)
      obtain ⟨a55, a55e⟩ : ∃ a55 : Int, a55 = zz_ab T (i : Int).toNat 2 := ⟨_, rfl⟩
      have a55r : zz_R a55 := by rw [a55e]; exact q54r
      refine ge_top (y := a55) a55e.symm ?_
      clear q54r
      have a55q : a55 = T (61 + i) 2 := by rw [a55e]; rfl
      refine ge_iast hC hK (q := 1) (j := i) (Nat.le_of_ble_eq_true rfl) rfl rfl (show _ < 16 by omega) a55r dL_passes_67 ?_
      obtain ⟨V56, hV56⟩ : ∃ V56 : zz_S, V56 = zz_u L 1 i a55 := ⟨_, rfl⟩
      refine ge_eq (U' := (T, T, V56)) (by rw [hV56]) ?_
      have dV56_0 : V56 0 0 = T 0 3 := by rw [hV56, zz_u_ne _ _ (by omega)]; exact hVL.1
      have dV56_1 : V56 0 1 = T 0 7 := by rw [hV56, zz_u_ne _ _ (by omega)]; exact hVL.2.1
      have dV56_2 : V56 0 2 = T 0 9 := by rw [hV56, zz_u_ne _ _ (by omega)]; exact hVL.2.2.1
      have dV56_3 : V56 0 3 = T 0 10 := by rw [hV56, zz_u_ne _ _ (by omega)]; exact hVL.2.2.2
      refine ge_aload hC dL_passes_68 (j := 5) rfl ?_
      refine ge_iload hC dL_passes_70 (j := 6) rfl ?_
      refine ge_aload_n hC dL_passes_72 rfl (j := 0) rfl ?_
      refine ge_iload hC dL_passes_73 (j := 6) rfl ?_
      refine ge_iconst hC dL_passes_75 ?_
      refine ge_ask (As := [zz_v (i : Int), zz_v 0]) (rest := [zz_v (i : Int), .ref q2]) hC hF (c_X3_about l hl9 N0 _ Y a T (i : Int) 0 ⟨by omega, by omega⟩ ⟨by decide, by decide⟩ hIC) (by refine ⟨?_, ?_, ?_⟩ <;> first | omega | exact fun z => z) (cwV 2 hts gL_passes_X3_about rfl rfl rfl (by decide +kernel) ⟨by decide, by decide⟩) rfl rfl (Nat.le_of_ble_eq_true rfl) dL_passes_76 ⟨show _ ≤ 240 by omega, show _ ≤ 1440 by omega⟩ (fun _ q57r => ?_)
      obtain ⟨a58, a58e⟩ : ∃ a58 : Int, a58 = zz_ab T (i : Int).toNat 0 := ⟨_, rfl⟩
      have a58r : zz_R a58 := by rw [a58e]; exact q57r
      refine ge_top (y := a58) a58e.symm ?_
      clear q57r
      have a58q : a58 = T (61 + i) 1 := by rw [a58e]; rfl
      refine ge_bipush hC dL_passes_79 rfl ?_
      refine ge_aload_n hC dL_passes_81 rfl (j := 0) rfl ?_
      refine ge_iload hC dL_passes_82 (j := 6) rfl ?_
      refine ge_iconst hC dL_passes_84 ?_
      refine ge_ask (As := [zz_v (i : Int), zz_v 4]) (rest := [zz_v 10, zz_v a58, zz_v (i : Int), .ref q2]) hC hF (c_X3_about l hl9 N0 _ Y a T (i : Int) 4 ⟨by omega, by omega⟩ ⟨by decide, by decide⟩ hIC) (by refine ⟨?_, ?_, ?_⟩ <;> first | omega | exact fun z => z) (cwV 2 hts gL_passes_X3_about rfl rfl rfl (by decide +kernel) ⟨by decide, by decide⟩) rfl rfl (Nat.le_of_ble_eq_true rfl) dL_passes_85 ⟨show _ ≤ 240 by omega, show _ ≤ 1440 by omega⟩ (fun _ q59r => ?_)
      obtain ⟨a60, a60e⟩ : ∃ a60 : Int, a60 = zz_ab T (i : Int).toNat 4 := ⟨_, rfl⟩
      have a60r : zz_R a60 := by rw [a60e]; exact q59r
      refine ge_top (y := a60) a60e.symm ?_
      clear q59r
      have a60q : a60 = if T (61 + i) 4 = 1 then 1 else 0 := by rw [a60e]; rfl
      refine ge_imul hC dL_passes_88 ?_
      refine ge_iadd hC dL_passes_89 ?_
      refine ge_iast hC hK (q := 2) (j := i) (Nat.le_of_ble_eq_true rfl) rfl rfl (show _ < 16 by omega) ⟨by omega, by omega⟩ dL_passes_90 ?_
      obtain ⟨V61, hV61⟩ : ∃ V61 : zz_S, V61 = zz_u V56 2 i (a58 + (10 * a60)) := ⟨_, rfl⟩
      refine ge_eq (U' := (T, T, V61)) (by rw [hV61]) ?_
      have dV61_0 : V61 0 0 = T 0 3 := by rw [hV61, zz_u_ne _ _ (by omega)]; exact dV56_0
      have dV61_1 : V61 0 1 = T 0 7 := by rw [hV61, zz_u_ne _ _ (by omega)]; exact dV56_1
      have dV61_2 : V61 0 2 = T 0 9 := by rw [hV61, zz_u_ne _ _ (by omega)]; exact dV56_2
      have dV61_3 : V61 0 3 = T 0 10 := by rw [hV61, zz_u_ne _ _ (by omega)]; exact dV56_3
      refine ge_iinc hC dL_passes_91 (j := 6) rfl (y := ((i + 1 : Nat) : Int)) (by omega) (by decide) (lv' := [(7, zz_v ((i + 1 : Nat) : Int)), (0, .ref (a 0)), (1, .ref (a 77)), (2, .ref ad), (4, zz_v days), (5, .ref q1), (6, .ref q2)]) rfl ?_
      refine ge_goto hC dL_passes_94 (tgt := 48) (by decide) ?_
      refine ge_sub [1, 2, 3, 4, 5, 6, 0] (lv' := [(0, .ref (a 0)), (1, .ref (a 77)), (2, .ref ad), (4, zz_v days), (5, .ref q1), (6, .ref q2), (7, zz_v ((i + 1 : Nat) : Int))]) rfl ?_
      refine ge_sup (k' := 6 + 6 * (i + 1)) (by omega) ?_
      refine ih48 (i + 1, V61) ⟨by omega, ⟨dV61_0, dV61_1, dV61_2, dV61_3⟩, fun j hj => ?_⟩ (show (T 0 9).toNat - (i + 1) < (T 0 9).toNat - i by omega)
      have hj2 : j < i + 1 := hj
      show V61 1 j = T (61 + j) 2 ∧ V61 2 j = zk_x T j
      by_cases e9 : j = i
      · rw [e9]
        exact ⟨by rw [hV61, zz_u_ne _ _ (by omega), hV56, zz_u_same]; exact a55q, by rw [hV61, zz_u_same, a58q, a60q]; rfl⟩
      · exact ⟨by rw [hV61, zz_u_ne _ _ (by omega), hV56, zz_u_ne _ _ (by omega)]; exact (hL j (by omega)).1, by rw [hV61, zz_u_ne _ _ (by omega), hV56, zz_u_ne _ _ (by omega)]; exact (hL j (by omega)).2⟩
  refine ge_iload_n hC dL_passes_0 rfl (j := 3) rfl ?_
  refine ge_iconst hC dL_passes_1 ?_
  refine ge_some (x := z) (n := 3) (rest := []) hC hF ⟨by omega, by omega⟩ (va_cwS 2 hts gL_passes_L_some rfl rfl rfl (by decide +kernel) ⟨by decide, by decide⟩) rfl (Nat.le_of_ble_eq_true rfl) dL_passes_2 ⟨show _ ≤ 240 by omega, show _ ≤ 1440 by omega⟩ (fun s62 s62a s62b => ?_)
  refine ge_if_ne hC dL_passes_5 (tgt := 21) (by decide) ⟨by omega, by omega⟩ (fun c63 => ?_) (fun c63 => ?_)
  · skip
    refine ge_iconst hC dL_passes_21 ?_
    refine ge_iload_n hC dL_passes_22 rfl (j := 3) rfl ?_
    refine ge_iconst hC dL_passes_23 ?_
    refine ge_ishrX hC dL_passes_24 (fun z64 z64r => ?_)
    obtain ⟨z64a, z64b⟩ := id z64r
    refine ge_bipush hC dL_passes_25 rfl ?_
    refine ge_some (x := z64) (n := 12) (rest := [zz_v 1]) hC hF ⟨by omega, by omega⟩ (va_cwS 2 hts gL_passes_L_some rfl rfl rfl (by decide +kernel) ⟨by decide, by decide⟩) rfl (Nat.le_of_ble_eq_true rfl) dL_passes_27 ⟨show _ ≤ 240 by omega, show _ ≤ 1440 by omega⟩ (fun s65 s65a s65b => ?_)
    refine ge_iadd hC dL_passes_30 ?_
    refine ge_sup (k' := 0) rfl ?_
    exact key (1 + s65) (by omega)
  · skip
    refine ge_iconst hC dL_passes_8 ?_
    refine ge_iload_n hC dL_passes_9 rfl (j := 3) rfl ?_
    refine ge_iconst hC dL_passes_10 ?_
    refine ge_ishrX hC dL_passes_11 (fun z66 z66r => ?_)
    obtain ⟨z66a, z66b⟩ := id z66r
    refine ge_bipush hC dL_passes_12 rfl ?_
    refine ge_some (x := z66) (n := 100) (rest := [zz_v 1]) hC hF ⟨by omega, by omega⟩ (va_cwS 2 hts gL_passes_L_some rfl rfl rfl (by decide +kernel) ⟨by decide, by decide⟩) rfl (Nat.le_of_ble_eq_true rfl) dL_passes_14 ⟨show _ ≤ 240 by omega, show _ ≤ 1440 by omega⟩ (fun s67 s67a s67b => ?_)
    refine ge_iadd hC dL_passes_17 ?_
    refine ge_goto hC dL_passes_18 (tgt := 31) (by decide) ?_
    refine ge_sup (k' := 0) rfl ?_
    exact key (1 + s67) (by omega)
