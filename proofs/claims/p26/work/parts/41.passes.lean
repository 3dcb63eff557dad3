abbrev rm_L_passes : Room := { frames := 11, cells := 240, slots := 1440, locals := 228 }
set_option maxHeartbeats 4000000 in
set_option maxRecDepth 100000 in
theorem c_L_passes (l : Launch) (hl9 : l.stackTraces = false) (N0 : Nat) (G : zz_G) (Y : zz_Y) (a : Nat → Nat) (T V : zz_S) (n : Nat) (ad : Nat) (z : Int) (hz : zz_R z) (hn : n + 2 ≤ 512) (hI : zi_ T n) (hV : zi_V T V) : Cy_ l yL_passes wsL_passes rm_L_passes 240 [.ref (a 0), .ref (a 77), .ref ad, zz_v z] N0 G Y a [ad] (T, T, V) (zl_post (n + 2)) := by
  refine Cy_.of (cc := cL_passes) (maxL := 11) (ret := (some .boolean)) (by decide) rfl (Nat.le_of_ble_eq_true rfl) ?_
  intro p e s m args below meth c hC hts hr hlk hF
  have hK := hF.2.1
  have k23 : (Cond.constant RL 23 (Int32.ofInt (-2000000003))).before args s = true := hts _ (by decide +kernel)
  have hIC : zz_IC T := zi_IC (by omega) hI
  obtain ⟨hA, hB, hCC, hD, hE, hFF, hG, hH⟩ := id hI
  have hd0 := hB.1
  have hd1 := hFF.1
  have hd2 := hH.1
  have hd3 : 0 ≤ T 0 10 ∧ T 0 10 ≤ 5000 := hCC
  have hdc := hD.1
  have hlc := hE.1
  obtain ⟨hV0, hV1, hV2, hV3⟩ := id hV
  refine ge_lveq (lv' := [(0, .ref (a 0)), (1, .ref (a 77)), (2, .ref ad), (3, zz_v z)]) rfl ?_
  refine ge_iload_n hC dL_passes_0 rfl (j := 3) rfl ?_
  refine ge_iconst hC dL_passes_1 ?_
  refine ge_some (x := z) (n := 3) (rest := []) hC hF ⟨by omega, by omega⟩ (va_cwS 2 hts gL_passes_L_some rfl rfl rfl (by decide +kernel) ⟨by decide, by decide⟩) rfl (Nat.le_of_ble_eq_true rfl) dL_passes_2 ⟨show _ ≤ 240 by omega, show _ ≤ 1440 by omega⟩ (fun s1 s1a s1b => ?_)
  refine ge_if_ne hC dL_passes_5 (tgt := 21) (by decide) ⟨by omega, by omega⟩ (fun c2 => ?_) (fun c2 => ?_)
  · skip
    refine ge_iconst hC dL_passes_21 ?_
    refine ge_iload_n hC dL_passes_22 rfl (j := 3) rfl ?_
    refine ge_iconst hC dL_passes_23 ?_
    refine ge_ishrX hC dL_passes_24 (fun z3 z3r => ?_)
    obtain ⟨z3a, z3b⟩ := id z3r
    refine ge_bipush hC dL_passes_25 rfl ?_
    refine ge_some (x := z3) (n := 12) (rest := [zz_v 1]) hC hF ⟨by omega, by omega⟩ (va_cwS 2 hts gL_passes_L_some rfl rfl rfl (by decide +kernel) ⟨by decide, by decide⟩) rfl (Nat.le_of_ble_eq_true rfl) dL_passes_27 ⟨show _ ≤ 240 by omega, show _ ≤ 1440 by omega⟩ (fun s4 s4a s4b => ?_)
    refine ge_iadd hC dL_passes_30 ?_
    obtain ⟨days, hdays⟩ : ∃ days : Int, days = 1 + s4 := ⟨_, rfl⟩
    have hdr : 1 ≤ days ∧ days ≤ 100 := by omega
    refine ge_top (y := days) hdays.symm ?_
    refine ge_istore hC dL_passes_31 (by decide) (lv' := [(4, zz_v days), (0, .ref (a 0)), (1, .ref (a 77)), (2, .ref ad), (3, zz_v z)]) rfl ?_
    refine ge_bipush hC dL_passes_33 rfl ?_
    refine ge_newa hC hF.1 (hts _ (by decide +kernel)) hK (by decide) ⟨show _ ≤ 240 by omega, show _ ≤ 1440 by omega⟩ dL_passes_35 (fun q1 => ?_)
    refine ge_astore hC dL_passes_37 (by decide) (lv' := [(5, .ref q1), (4, zz_v days), (0, .ref (a 0)), (1, .ref (a 77)), (2, .ref ad), (3, zz_v z)]) rfl ?_
    refine ge_bipush hC dL_passes_39 rfl ?_
    refine ge_newa hC hF.1 (hts _ (by decide +kernel)) hK (by decide) ⟨show _ ≤ 240 by omega, show _ ≤ 1440 by omega⟩ dL_passes_41 (fun q2 => ?_)
    obtain ⟨Vz, hVz⟩ : ∃ Vz : zz_S, Vz = va_up (va_up V 1 (fun _ => 0)) 2 (fun _ => 0) := ⟨_, rfl⟩
    refine ge_eq (U' := (T, T, Vz)) (by rw [hVz]; rfl) ?_
    have hz0 : Vz 0 = V 0 := by rw [hVz, va_up_ne _ _ (by omega), va_up_ne _ _ (by omega)]
    have hVv : zi_V T Vz := by unfold zi_V at *; rw [hz0]; exact hV
    refine ge_astore hC dL_passes_43 (by decide) (lv' := [(6, .ref q2), (5, .ref q1), (4, zz_v days), (0, .ref (a 0)), (1, .ref (a 77)), (2, .ref ad), (3, zz_v z)]) rfl ?_
    refine ge_iconst hC dL_passes_45 ?_
    refine ge_istore hC dL_passes_46 (by decide) (lv' := [(7, zz_v 0), (6, .ref q2), (5, .ref q1), (4, zz_v days), (0, .ref (a 0)), (1, .ref (a 77)), (2, .ref ad), (3, zz_v z)]) rfl ?_
    refine ge_sub [4, 5, 6, 3, 2, 1, 0] (lv' := [(0, .ref (a 0)), (1, .ref (a 77)), (2, .ref ad), (4, zz_v days), (5, .ref q1), (6, .ref q2), (7, zz_v 0)]) rfl ?_
    refine ge_loopA (σ := Nat × zz_S) (μ := fun vz => (T 0 9).toNat - vz.1) (I := fun vz => vz.1 ≤ (T 0 9).toNat ∧ zi_V T vz.2 ∧ ∀ j : Nat, j < vz.1 → vz.2 1 j = T (61 + j) 2 ∧ vz.2 2 j = T (61 + j) 1 + 10 * (if T (61 + j) 4 = 1 then 1 else 0)) (kf := fun vz => 6 + 6 * vz.1) (Uf := fun vz => (T, T, vz.2)) (lf := fun vz => [(0, .ref (a 0)), (1, .ref (a 77)), (2, .ref ad), (4, zz_v days), (5, .ref q1), (6, .ref q2), (7, zz_v (vz.1 : Int))]) (0, Vz) ⟨Nat.zero_le _, hVv, fun j hj => absurd hj (by omega)⟩ (by rfl) rfl rfl (fun ⟨i, L⟩ hI9 ih48 => ?_)
    obtain ⟨hi, hVL, hL⟩ : i ≤ (T 0 9).toNat ∧ zi_V T L ∧ ∀ j : Nat, j < i → L 1 j = T (61 + j) 2 ∧ L 2 j = T (61 + j) 1 + 10 * (if T (61 + j) 4 = 1 then 1 else 0) := hI9
    refine ge_lveq (lv' := [(0, .ref (a 0)), (1, .ref (a 77)), (2, .ref ad), (4, zz_v days), (5, .ref q1), (6, .ref q2), (7, zz_v (i : Int))]) rfl ?_
    refine ge_eq (U' := (T, T, L)) rfl ?_
    refine ge_sup (k' := 6 + 6 * i) rfl ?_
    refine ge_iload hC dL_passes_48 (j := 6) rfl ?_
    refine ge_aload_n hC dL_passes_50 rfl (j := 2) rfl ?_
    refine ge_iconst hC dL_passes_51 ?_
    refine ge_iald hC hK (q := 0) (j := 2) (by decide) rfl rfl (by decide) dL_passes_52 (fun _ => ?_)
    refine ge_top (y := T 0 9) hVL.2.2.1 ?_
    refine ge_icmp_ge hC dL_passes_53 (tgt := 97) (by decide) ⟨by omega, by omega⟩ ⟨by omega, by omega⟩ (fun c5 => ?_) (fun c5 => ?_)
    · skip
      obtain rfl : i = (T 0 9).toNat := by omega
      refine ge_aload_n hC dL_passes_97 rfl (j := 0) rfl ?_
      refine ge_aload_n hC dL_passes_98 rfl (j := 1) rfl ?_
      refine ge_bipush hC dL_passes_99 rfl ?_
      refine ge_iload hC dL_passes_101 (j := 3) rfl ?_
      refine ge_iconst hC dL_passes_103 ?_
      refine ge_iconst hC dL_passes_104 ?_
      refine ge_both (what := 16) (x := days) (y := 0) (w := 0) (rest := []) hl9 hC hF (fun G' a' => (c_L_does_pass l hl9 N0 G' Y a' T 0 0 days ⟨by omega, by omega⟩ hIC)) (by refine ⟨fun z9 => ⟨?_, ?_, ?_⟩, fun z9 => ⟨?_, ?_⟩, fun z9 => ?_⟩ <;> intro z8 <;> first | exact z8.elim | exact z9.elim | omega) (va_cwS 6 hts gL_passes_L_both rfl rfl rfl (by decide +kernel) ⟨by decide, by decide⟩) rfl (Nat.le_of_ble_eq_true rfl) dL_passes_105 ⟨show _ ≤ 240 by omega, show _ ≤ 1440 by omega⟩ (fun r6 T7 r6r hw => ?_)
      rcases hw with ⟨r6e, hwF, hT⟩ | ⟨r6e, hwF, hT⟩ | ⟨r6e, hwF, hT⟩ | ⟨r6e, hwF, hT⟩
      · skip
        have hT1 : T7 = zk_pS T days := hT
        obtain ⟨j1, ⟨j3, j7, j9, j10⟩, jr⟩ := zk_pass (x := days) hI (by omega) (by omega)
        rw [← hT1] at j1 j3 j7 j9 j10 jr
        have ICT7 : zz_IC T7 := zi_IC (by omega) j1
        have r6q : r6 = T 0 10 + days := r6e
        refine ge_istore hC dL_passes_108 (by decide) (lv' := [(7, zz_v r6), (0, .ref (a 0)), (1, .ref (a 77)), (2, .ref ad), (4, zz_v days), (5, .ref q1), (6, .ref q2)]) rfl ?_
        refine ge_iload hC dL_passes_110 (j := 0) rfl ?_
        refine ge_ldc hC (n := -2000000003) k23 dL_passes_112 ?_
        refine ge_icmp_ne hC dL_passes_114 (tgt := 135) (by decide) r6r ⟨by decide, by decide⟩ (fun c8 => ?_) (fun c8 => (by omega))
        refine ge_aload_n hC dL_passes_135 rfl (j := 3) rfl ?_
        refine ge_iconst hC dL_passes_136 ?_
        refine ge_dup2 hC dL_passes_137 rfl rfl ?_
        refine ge_iald hC hK (q := 0) (j := 3) (by decide) rfl rfl (by decide) dL_passes_138 (fun _ => ?_)
        refine ge_top (y := T 0 10) hVL.2.2.2 ?_
        refine ge_iload hC dL_passes_139 (j := 4) rfl ?_
        refine ge_iadd hC dL_passes_141 ?_
        refine ge_iast hC hK (q := 0) (j := 3) (by decide) rfl rfl (by decide) ⟨by omega, by omega⟩ dL_passes_142 ?_
        obtain ⟨V9, hV9⟩ : ∃ V9 : zz_S, V9 = zz_u L 0 3 ((T 0 10) + days) := ⟨_, rfl⟩
        refine ge_eq (U' := (T7, T7, V9)) (by rw [hV9]) ?_
        have dV9_0 : V9 0 0 = T 0 3 := by rw [hV9, zz_u_ne _ _ (by omega)]; exact hVL.1
        have dV9_1 : V9 0 1 = T 0 7 := by rw [hV9, zz_u_ne _ _ (by omega)]; exact hVL.2.1
        have dV9_2 : V9 0 2 = T 0 9 := by rw [hV9, zz_u_ne _ _ (by omega)]; exact hVL.2.2.1
        have dV9_3 : V9 0 3 = (T 0 10) + days := by rw [hV9, zz_u_same]
        have wV9_1 : V9 1 = L 1 := by rw [hV9, zz_u_off _ _ (by omega)]
        have wV9_2 : V9 2 = L 2 := by rw [hV9, zz_u_off _ _ (by omega)]
        refine ge_iload hC dL_passes_143 (j := 0) rfl ?_
        refine ge_aload_n hC dL_passes_145 rfl (j := 3) rfl ?_
        refine ge_iconst hC dL_passes_146 ?_
        refine ge_iald hC hK (q := 0) (j := 3) (by decide) rfl rfl (by decide) dL_passes_147 (fun _ => ?_)
        refine ge_top (y := (T 0 10) + days) dV9_3 ?_
        refine ge_icmp_ne hC dL_passes_148 (tgt := 155) (by decide) r6r ⟨by omega, by omega⟩ (fun c10 => (by omega)) (fun c10 => ?_)
        refine ge_iconst hC dL_passes_151 ?_
        refine ge_goto hC dL_passes_152 (tgt := 156) (by decide) ?_
        refine ge_istore hC dL_passes_156 (by decide) (lv' := [(8, zz_v 1), (7, zz_v r6), (0, .ref (a 0)), (1, .ref (a 77)), (2, .ref ad), (4, zz_v days), (5, .ref q1), (6, .ref q2)]) rfl ?_
        refine ge_iconst hC dL_passes_158 ?_
        refine ge_istore hC dL_passes_159 (by decide) (lv' := [(9, zz_v 0), (8, zz_v 1), (7, zz_v r6), (0, .ref (a 0)), (1, .ref (a 77)), (2, .ref ad), (4, zz_v days), (5, .ref q1), (6, .ref q2)]) rfl ?_
        refine ge_sub [3, 5, 6, 7, 8, 1, 0] (lv' := [(0, .ref (a 0)), (2, .ref ad), (4, zz_v days), (5, .ref q1), (6, .ref q2), (8, zz_v 1), (9, zz_v 0)]) rfl ?_
        refine ge_loopA (σ := Nat) (μ := fun vz => (T 0 9).toNat - vz) (I := fun vz => vz ≤ (T 0 9).toNat) (kf := fun vz => 14 + 6 * (T 0 9).toNat + 4 * vz) (Uf := fun vz => (T7, T7, V9)) (lf := fun vz => [(0, .ref (a 0)), (2, .ref ad), (4, zz_v days), (5, .ref q1), (6, .ref q2), (8, zz_v 1), (9, zz_v (vz : Int))]) 0 (Nat.zero_le _) (show _ = 14 + 6 * (T 0 9).toNat + 4 * 0 by omega) rfl rfl (fun u hu9 ih161 => ?_)
        have hu : u ≤ (T 0 9).toNat := hu9
        refine ge_lveq (lv' := [(0, .ref (a 0)), (2, .ref ad), (4, zz_v days), (5, .ref q1), (6, .ref q2), (8, zz_v 1), (9, zz_v (u : Int))]) rfl ?_
        refine ge_eq (U' := (T7, T7, V9)) rfl ?_
        refine ge_sup (k' := 14 + 6 * (T 0 9).toNat + 4 * u) rfl ?_
        refine ge_iload hC dL_passes_161 (j := 6) rfl ?_
        refine ge_aload_n hC dL_passes_163 rfl (j := 1) rfl ?_
        refine ge_iconst hC dL_passes_164 ?_
        refine ge_iald hC hK (q := 0) (j := 2) (by decide) rfl rfl (by decide) dL_passes_165 (fun _ => ?_)
        refine ge_top (y := T 0 9) dV9_2 ?_
        refine ge_icmp_ge hC dL_passes_166 (tgt := 274) (by decide) ⟨by omega, by omega⟩ ⟨by omega, by omega⟩ (fun c11 => ?_) (fun c11 => ?_)
        · skip
          refine ge_iload hC dL_passes_274 (j := 5) rfl ?_
          refine ge_forget (nA := [ad] ++ [q1]) ?_
          refine ge_forget (nA := [ad]) ?_
          exact ge_ireturn hC hr rfl hlk dL_passes_276 (show _ ≤ 240 by omega) ⟨rfl, T7, V9, rfl, zi_wide (Nat.le_add_right _ _) j1, by unfold zi_V; first | omega | (refine ⟨?_, ?_, ?_, ?_⟩ <;> omega)⟩
        · skip
          refine ge_iload hC dL_passes_169 (j := 5) rfl ?_
          refine ge_if_eq hC dL_passes_171 (tgt := 274) (by decide) ⟨by decide, by decide⟩ (fun c12 => (by omega)) (fun c12 => ?_)
          obtain ⟨g2, g1⟩ := jr u (by omega)
          obtain ⟨l1, l2⟩ := hL u (by omega)
          rw [← wV9_1] at l1
          rw [← wV9_2] at l2
          obtain ⟨h1, h2, h3, h4, h5, h6, h7, h8, h9, h10, h11, h12⟩ := hH.2 u (by omega)
          unfold zk_due at g2
          unfold zk_sta zk_due at g1
          rw [← l1, ← l2] at g2
          rw [← l1, ← l2] at g1
          refine ge_aload hC dL_passes_174 (j := 4) rfl ?_
          refine ge_iload hC dL_passes_176 (j := 6) rfl ?_
          refine ge_iald hC hK (q := 2) (j := u) (by decide) rfl rfl (show _ < 16 by omega) dL_passes_178 (fun v13r => ?_)
          refine ge_top (y := V9 2 u) rfl ?_
          have v13s : zz_R (V9 2 u) := v13r
          refine ge_if_ne hC dL_passes_179 (tgt := 207) (by decide) v13s (fun c14 => ?_) (fun c14 => ?_)
          · skip
            refine ge_aload hC dL_passes_207 (j := 3) rfl ?_
            refine ge_iload hC dL_passes_209 (j := 6) rfl ?_
            refine ge_iald hC hK (q := 1) (j := u) (by decide) rfl rfl (show _ < 16 by omega) dL_passes_211 (fun v15r => ?_)
            refine ge_top (y := V9 1 u) rfl ?_
            have v15s : zz_R (V9 1 u) := v15r
            refine ge_istore hC dL_passes_212 (by decide) (lv' := [(10, zz_v (V9 1 u)), (0, .ref (a 0)), (2, .ref ad), (4, zz_v days), (5, .ref q1), (6, .ref q2), (8, zz_v 1), (9, zz_v (u : Int))]) rfl ?_
            refine ge_aload_n hC dL_passes_214 rfl (j := 1) rfl ?_
            refine ge_iload hC dL_passes_215 (j := 7) rfl ?_
            refine ge_iconst hC dL_passes_217 ?_
            refine ge_ask (As := [zz_v (u : Int), zz_v 2]) (rest := []) hC hF (c_X3_about l hl9 N0 _ Y a T7 (u : Int) 2 ⟨by omega, by omega⟩ ⟨by decide, by decide⟩ ICT7) (by refine ⟨?_, ?_, ?_⟩ <;> first | omega | exact fun z => z) (cwV 2 hts gL_passes_X3_about rfl rfl rfl (by decide +kernel) ⟨by decide, by decide⟩) rfl rfl (Nat.le_of_ble_eq_true rfl) dL_passes_218 ⟨show _ ≤ 240 by omega, show _ ≤ 1440 by omega⟩ (fun _ q16r => ?_)
            obtain ⟨a17, a17e⟩ : ∃ a17 : Int, a17 = zz_ab T7 (u : Int).toNat 2 := ⟨_, rfl⟩
            have a17r : zz_R a17 := by rw [a17e]; exact q16r
            refine ge_top (y := a17) a17e.symm ?_
            clear q16r
            refine ge_iload hC dL_passes_221 (j := 0) rfl ?_
            refine ge_icmp_ne hC dL_passes_223 (tgt := 265) (by decide) a17r v15s (fun c18 => (by omega)) (fun c18 => ?_)
            refine ge_aload_n hC dL_passes_226 rfl (j := 1) rfl ?_
            refine ge_iload hC dL_passes_227 (j := 7) rfl ?_
            refine ge_iconst hC dL_passes_229 ?_
            refine ge_ask (As := [zz_v (u : Int), zz_v 0]) (rest := []) hC hF (c_X3_about l hl9 N0 _ Y a T7 (u : Int) 0 ⟨by omega, by omega⟩ ⟨by decide, by decide⟩ ICT7) (by refine ⟨?_, ?_, ?_⟩ <;> first | omega | exact fun z => z) (cwV 2 hts gL_passes_X3_about rfl rfl rfl (by decide +kernel) ⟨by decide, by decide⟩) rfl rfl (Nat.le_of_ble_eq_true rfl) dL_passes_230 ⟨show _ ≤ 240 by omega, show _ ≤ 1440 by omega⟩ (fun _ q19r => ?_)
            obtain ⟨a20, a20e⟩ : ∃ a20 : Int, a20 = zz_ab T7 (u : Int).toNat 0 := ⟨_, rfl⟩
            have a20r : zz_R a20 := by rw [a20e]; exact q19r
            refine ge_top (y := a20) a20e.symm ?_
            clear q19r
            refine ge_aload hC dL_passes_233 (j := 5) rfl ?_
            refine ge_iload hC dL_passes_235 (j := 7) rfl ?_
            refine ge_iald hC hK (q := 2) (j := u) (by decide) rfl rfl (show _ < 16 by omega) dL_passes_237 (fun v21r => ?_)
            refine ge_top (y := V9 2 u) rfl ?_
            have v21s : zz_R (V9 2 u) := v21r
            refine ge_if_ne hC dL_passes_238 (tgt := 250) (by decide) v21s (fun c22 => ?_) (fun c22 => ?_)
            · skip
              refine ge_aload hC dL_passes_250 (j := 5) rfl ?_
              refine ge_iload hC dL_passes_252 (j := 7) rfl ?_
              refine ge_iald hC hK (q := 2) (j := u) (by decide) rfl rfl (show _ < 16 by omega) dL_passes_254 (fun v23r => ?_)
              refine ge_top (y := V9 2 u) rfl ?_
              have v23s : zz_R (V9 2 u) := v23r
              refine ge_bipush hC dL_passes_255 rfl ?_
              refine ge_irem hC dL_passes_257 ⟨by omega, by omega⟩ ⟨by omega, by omega⟩ ?_
              refine ge_icmp_ne hC dL_passes_258 (tgt := 265) (by decide) a20r ⟨by omega, by omega⟩ (fun c24 => (by omega)) (fun c24 => ?_)
              refine ge_iconst hC dL_passes_261 ?_
              refine ge_goto hC dL_passes_262 (tgt := 266) (by decide) ?_
              refine ge_istore hC dL_passes_266 (by decide) (lv' := [(8, zz_v 1), (10, zz_v (V9 1 u)), (0, .ref (a 0)), (2, .ref ad), (4, zz_v days), (5, .ref q1), (6, .ref q2), (9, zz_v (u : Int))]) rfl ?_
              refine ge_iinc hC dL_passes_268 (j := 7) rfl (y := ((u + 1 : Nat) : Int)) (by omega) (by decide) (lv' := [(9, zz_v ((u + 1 : Nat) : Int)), (8, zz_v 1), (10, zz_v (V9 1 u)), (0, .ref (a 0)), (2, .ref ad), (4, zz_v days), (5, .ref q1), (6, .ref q2)]) rfl ?_
              refine ge_goto hC dL_passes_271 (tgt := 161) (by decide) ?_
              refine ge_sub [3, 4, 5, 6, 7, 1, 0] (lv' := [(0, .ref (a 0)), (2, .ref ad), (4, zz_v days), (5, .ref q1), (6, .ref q2), (8, zz_v 1), (9, zz_v ((u + 1 : Nat) : Int))]) rfl ?_
              refine ge_sup (k' := 14 + 6 * (T 0 9).toNat + 4 * (u + 1)) (by omega) ?_
              exact ih161 (u + 1) (show u + 1 ≤ (T 0 9).toNat by omega) (show (T 0 9).toNat - (u + 1) < (T 0 9).toNat - u by omega)
            · skip
              refine ge_iload hC dL_passes_241 (j := 0) rfl ?_
              refine ge_if_ne hC dL_passes_243 (tgt := 250) (by decide) v15s (fun c25 => ?_) (fun c25 => ?_)
              · skip
                refine ge_aload hC dL_passes_250 (j := 5) rfl ?_
                refine ge_iload hC dL_passes_252 (j := 7) rfl ?_
                refine ge_iald hC hK (q := 2) (j := u) (by decide) rfl rfl (show _ < 16 by omega) dL_passes_254 (fun v26r => ?_)
                refine ge_top (y := V9 2 u) rfl ?_
                have v26s : zz_R (V9 2 u) := v26r
                refine ge_bipush hC dL_passes_255 rfl ?_
                refine ge_irem hC dL_passes_257 ⟨by omega, by omega⟩ ⟨by omega, by omega⟩ ?_
                refine ge_icmp_ne hC dL_passes_258 (tgt := 265) (by decide) a20r ⟨by omega, by omega⟩ (fun c27 => (by omega)) (fun c27 => ?_)
                refine ge_iconst hC dL_passes_261 ?_
                refine ge_goto hC dL_passes_262 (tgt := 266) (by decide) ?_
                refine ge_istore hC dL_passes_266 (by decide) (lv' := [(8, zz_v 1), (10, zz_v (V9 1 u)), (0, .ref (a 0)), (2, .ref ad), (4, zz_v days), (5, .ref q1), (6, .ref q2), (9, zz_v (u : Int))]) rfl ?_
                refine ge_iinc hC dL_passes_268 (j := 7) rfl (y := ((u + 1 : Nat) : Int)) (by omega) (by decide) (lv' := [(9, zz_v ((u + 1 : Nat) : Int)), (8, zz_v 1), (10, zz_v (V9 1 u)), (0, .ref (a 0)), (2, .ref ad), (4, zz_v days), (5, .ref q1), (6, .ref q2)]) rfl ?_
                refine ge_goto hC dL_passes_271 (tgt := 161) (by decide) ?_
                refine ge_sub [3, 4, 5, 6, 7, 1, 0] (lv' := [(0, .ref (a 0)), (2, .ref ad), (4, zz_v days), (5, .ref q1), (6, .ref q2), (8, zz_v 1), (9, zz_v ((u + 1 : Nat) : Int))]) rfl ?_
                refine ge_sup (k' := 14 + 6 * (T 0 9).toNat + 4 * (u + 1)) (by omega) ?_
                exact ih161 (u + 1) (show u + 1 ≤ (T 0 9).toNat by omega) (show (T 0 9).toNat - (u + 1) < (T 0 9).toNat - u by omega)
              · skip
                refine ge_iconst hC dL_passes_246 ?_
                refine ge_goto hC dL_passes_247 (tgt := 258) (by decide) ?_
                refine ge_icmp_ne hC dL_passes_258 (tgt := 265) (by decide) a20r ⟨by decide, by decide⟩ (fun c28 => (by omega)) (fun c28 => ?_)
                refine ge_iconst hC dL_passes_261 ?_
                refine ge_goto hC dL_passes_262 (tgt := 266) (by decide) ?_
                refine ge_istore hC dL_passes_266 (by decide) (lv' := [(8, zz_v 1), (10, zz_v (V9 1 u)), (0, .ref (a 0)), (2, .ref ad), (4, zz_v days), (5, .ref q1), (6, .ref q2), (9, zz_v (u : Int))]) rfl ?_
                refine ge_iinc hC dL_passes_268 (j := 7) rfl (y := ((u + 1 : Nat) : Int)) (by omega) (by decide) (lv' := [(9, zz_v ((u + 1 : Nat) : Int)), (8, zz_v 1), (10, zz_v (V9 1 u)), (0, .ref (a 0)), (2, .ref ad), (4, zz_v days), (5, .ref q1), (6, .ref q2)]) rfl ?_
                refine ge_goto hC dL_passes_271 (tgt := 161) (by decide) ?_
                refine ge_sub [3, 4, 5, 6, 7, 1, 0] (lv' := [(0, .ref (a 0)), (2, .ref ad), (4, zz_v days), (5, .ref q1), (6, .ref q2), (8, zz_v 1), (9, zz_v ((u + 1 : Nat) : Int))]) rfl ?_
                refine ge_sup (k' := 14 + 6 * (T 0 9).toNat + 4 * (u + 1)) (by omega) ?_
                exact ih161 (u + 1) (show u + 1 ≤ (T 0 9).toNat by omega) (show (T 0 9).toNat - (u + 1) < (T 0 9).toNat - u by omega)
          · skip
            refine ge_aload hC dL_passes_182 (j := 3) rfl ?_
            refine ge_iload hC dL_passes_184 (j := 6) rfl ?_
            refine ge_iald hC hK (q := 1) (j := u) (by decide) rfl rfl (show _ < 16 by omega) dL_passes_186 (fun v29r => ?_)
            refine ge_top (y := V9 1 u) rfl ?_
            have v29s : zz_R (V9 1 u) := v29r
            refine ge_iload hC dL_passes_187 (j := 2) rfl ?_
            refine ge_icmp_ge hC dL_passes_189 (tgt := 196) (by decide) v29s ⟨by omega, by omega⟩ (fun c30 => ?_) (fun c30 => ?_)
            · skip
              refine ge_aload hC dL_passes_196 (j := 3) rfl ?_
              refine ge_iload hC dL_passes_198 (j := 6) rfl ?_
              refine ge_iald hC hK (q := 1) (j := u) (by decide) rfl rfl (show _ < 16 by omega) dL_passes_200 (fun v31r => ?_)
              refine ge_top (y := V9 1 u) rfl ?_
              have v31s : zz_R (V9 1 u) := v31r
              refine ge_iload hC dL_passes_201 (j := 2) rfl ?_
              refine ge_isub hC dL_passes_203 ?_
              refine ge_goto hC dL_passes_204 (tgt := 212) (by decide) ?_
              refine ge_istore hC dL_passes_212 (by decide) (lv' := [(10, zz_v ((V9 1 u) - days)), (0, .ref (a 0)), (2, .ref ad), (4, zz_v days), (5, .ref q1), (6, .ref q2), (8, zz_v 1), (9, zz_v (u : Int))]) rfl ?_
              refine ge_aload_n hC dL_passes_214 rfl (j := 1) rfl ?_
              refine ge_iload hC dL_passes_215 (j := 7) rfl ?_
              refine ge_iconst hC dL_passes_217 ?_
              refine ge_ask (As := [zz_v (u : Int), zz_v 2]) (rest := []) hC hF (c_X3_about l hl9 N0 _ Y a T7 (u : Int) 2 ⟨by omega, by omega⟩ ⟨by decide, by decide⟩ ICT7) (by refine ⟨?_, ?_, ?_⟩ <;> first | omega | exact fun z => z) (cwV 2 hts gL_passes_X3_about rfl rfl rfl (by decide +kernel) ⟨by decide, by decide⟩) rfl rfl (Nat.le_of_ble_eq_true rfl) dL_passes_218 ⟨show _ ≤ 240 by omega, show _ ≤ 1440 by omega⟩ (fun _ q32r => ?_)
              obtain ⟨a33, a33e⟩ : ∃ a33 : Int, a33 = zz_ab T7 (u : Int).toNat 2 := ⟨_, rfl⟩
              have a33r : zz_R a33 := by rw [a33e]; exact q32r
              refine ge_top (y := a33) a33e.symm ?_
              clear q32r
              refine ge_iload hC dL_passes_221 (j := 0) rfl ?_
              refine ge_icmp_ne hC dL_passes_223 (tgt := 265) (by decide) a33r ⟨by omega, by omega⟩ (fun c34 => (by omega)) (fun c34 => ?_)
              refine ge_aload_n hC dL_passes_226 rfl (j := 1) rfl ?_
              refine ge_iload hC dL_passes_227 (j := 7) rfl ?_
              refine ge_iconst hC dL_passes_229 ?_
              refine ge_ask (As := [zz_v (u : Int), zz_v 0]) (rest := []) hC hF (c_X3_about l hl9 N0 _ Y a T7 (u : Int) 0 ⟨by omega, by omega⟩ ⟨by decide, by decide⟩ ICT7) (by refine ⟨?_, ?_, ?_⟩ <;> first | omega | exact fun z => z) (cwV 2 hts gL_passes_X3_about rfl rfl rfl (by decide +kernel) ⟨by decide, by decide⟩) rfl rfl (Nat.le_of_ble_eq_true rfl) dL_passes_230 ⟨show _ ≤ 240 by omega, show _ ≤ 1440 by omega⟩ (fun _ q35r => ?_)
              obtain ⟨a36, a36e⟩ : ∃ a36 : Int, a36 = zz_ab T7 (u : Int).toNat 0 := ⟨_, rfl⟩
              have a36r : zz_R a36 := by rw [a36e]; exact q35r
              refine ge_top (y := a36) a36e.symm ?_
              clear q35r
              refine ge_aload hC dL_passes_233 (j := 5) rfl ?_
              refine ge_iload hC dL_passes_235 (j := 7) rfl ?_
              refine ge_iald hC hK (q := 2) (j := u) (by decide) rfl rfl (show _ < 16 by omega) dL_passes_237 (fun v37r => ?_)
              refine ge_top (y := V9 2 u) rfl ?_
              have v37s : zz_R (V9 2 u) := v37r
              refine ge_if_ne hC dL_passes_238 (tgt := 250) (by decide) v37s (fun c38 => ?_) (fun c38 => ?_)
              · skip
                refine ge_aload hC dL_passes_250 (j := 5) rfl ?_
                refine ge_iload hC dL_passes_252 (j := 7) rfl ?_
                refine ge_iald hC hK (q := 2) (j := u) (by decide) rfl rfl (show _ < 16 by omega) dL_passes_254 (fun v39r => ?_)
                refine ge_top (y := V9 2 u) rfl ?_
                have v39s : zz_R (V9 2 u) := v39r
                refine ge_bipush hC dL_passes_255 rfl ?_
                refine ge_irem hC dL_passes_257 ⟨by omega, by omega⟩ ⟨by omega, by omega⟩ ?_
                refine ge_icmp_ne hC dL_passes_258 (tgt := 265) (by decide) a36r ⟨by omega, by omega⟩ (fun c40 => (by omega)) (fun c40 => ?_)
                refine ge_iconst hC dL_passes_261 ?_
                refine ge_goto hC dL_passes_262 (tgt := 266) (by decide) ?_
                refine ge_istore hC dL_passes_266 (by decide) (lv' := [(8, zz_v 1), (10, zz_v ((V9 1 u) - days)), (0, .ref (a 0)), (2, .ref ad), (4, zz_v days), (5, .ref q1), (6, .ref q2), (9, zz_v (u : Int))]) rfl ?_
                refine ge_iinc hC dL_passes_268 (j := 7) rfl (y := ((u + 1 : Nat) : Int)) (by omega) (by decide) (lv' := [(9, zz_v ((u + 1 : Nat) : Int)), (8, zz_v 1), (10, zz_v ((V9 1 u) - days)), (0, .ref (a 0)), (2, .ref ad), (4, zz_v days), (5, .ref q1), (6, .ref q2)]) rfl ?_
                refine ge_goto hC dL_passes_271 (tgt := 161) (by decide) ?_
                refine ge_sub [3, 4, 5, 6, 7, 1, 0] (lv' := [(0, .ref (a 0)), (2, .ref ad), (4, zz_v days), (5, .ref q1), (6, .ref q2), (8, zz_v 1), (9, zz_v ((u + 1 : Nat) : Int))]) rfl ?_
                refine ge_sup (k' := 14 + 6 * (T 0 9).toNat + 4 * (u + 1)) (by omega) ?_
                exact ih161 (u + 1) (show u + 1 ≤ (T 0 9).toNat by omega) (show (T 0 9).toNat - (u + 1) < (T 0 9).toNat - u by omega)
              · skip
                refine ge_iload hC dL_passes_241 (j := 0) rfl ?_
                refine ge_if_ne hC dL_passes_243 (tgt := 250) (by decide) ⟨by omega, by omega⟩ (fun c41 => ?_) (fun c41 => ?_)
                · skip
                  refine ge_aload hC dL_passes_250 (j := 5) rfl ?_
                  refine ge_iload hC dL_passes_252 (j := 7) rfl ?_
                  refine ge_iald hC hK (q := 2) (j := u) (by decide) rfl rfl (show _ < 16 by omega) dL_passes_254 (fun v42r => ?_)
                  refine ge_top (y := V9 2 u) rfl ?_
                  have v42s : zz_R (V9 2 u) := v42r
                  refine ge_bipush hC dL_passes_255 rfl ?_
                  refine ge_irem hC dL_passes_257 ⟨by omega, by omega⟩ ⟨by omega, by omega⟩ ?_
                  refine ge_icmp_ne hC dL_passes_258 (tgt := 265) (by decide) a36r ⟨by omega, by omega⟩ (fun c43 => (by omega)) (fun c43 => ?_)
                  refine ge_iconst hC dL_passes_261 ?_
                  refine ge_goto hC dL_passes_262 (tgt := 266) (by decide) ?_
                  refine ge_istore hC dL_passes_266 (by decide) (lv' := [(8, zz_v 1), (10, zz_v ((V9 1 u) - days)), (0, .ref (a 0)), (2, .ref ad), (4, zz_v days), (5, .ref q1), (6, .ref q2), (9, zz_v (u : Int))]) rfl ?_
                  refine ge_iinc hC dL_passes_268 (j := 7) rfl (y := ((u + 1 : Nat) : Int)) (by omega) (by decide) (lv' := [(9, zz_v ((u + 1 : Nat) : Int)), (8, zz_v 1), (10, zz_v ((V9 1 u) - days)), (0, .ref (a 0)), (2, .ref ad), (4, zz_v days), (5, .ref q1), (6, .ref q2)]) rfl ?_
                  refine ge_goto hC dL_passes_271 (tgt := 161) (by decide) ?_
                  refine ge_sub [3, 4, 5, 6, 7, 1, 0] (lv' := [(0, .ref (a 0)), (2, .ref ad), (4, zz_v days), (5, .ref q1), (6, .ref q2), (8, zz_v 1), (9, zz_v ((u + 1 : Nat) : Int))]) rfl ?_
                  refine ge_sup (k' := 14 + 6 * (T 0 9).toNat + 4 * (u + 1)) (by omega) ?_
                  exact ih161 (u + 1) (show u + 1 ≤ (T 0 9).toNat by omega) (show (T 0 9).toNat - (u + 1) < (T 0 9).toNat - u by omega)
                · skip
                  refine ge_iconst hC dL_passes_246 ?_
                  refine ge_goto hC dL_passes_247 (tgt := 258) (by decide) ?_
                  refine ge_icmp_ne hC dL_passes_258 (tgt := 265) (by decide) a36r ⟨by decide, by decide⟩ (fun c44 => (by omega)) (fun c44 => ?_)
                  refine ge_iconst hC dL_passes_261 ?_
                  refine ge_goto hC dL_passes_262 (tgt := 266) (by decide) ?_
                  refine ge_istore hC dL_passes_266 (by decide) (lv' := [(8, zz_v 1), (10, zz_v ((V9 1 u) - days)), (0, .ref (a 0)), (2, .ref ad), (4, zz_v days), (5, .ref q1), (6, .ref q2), (9, zz_v (u : Int))]) rfl ?_
                  refine ge_iinc hC dL_passes_268 (j := 7) rfl (y := ((u + 1 : Nat) : Int)) (by omega) (by decide) (lv' := [(9, zz_v ((u + 1 : Nat) : Int)), (8, zz_v 1), (10, zz_v ((V9 1 u) - days)), (0, .ref (a 0)), (2, .ref ad), (4, zz_v days), (5, .ref q1), (6, .ref q2)]) rfl ?_
                  refine ge_goto hC dL_passes_271 (tgt := 161) (by decide) ?_
                  refine ge_sub [3, 4, 5, 6, 7, 1, 0] (lv' := [(0, .ref (a 0)), (2, .ref ad), (4, zz_v days), (5, .ref q1), (6, .ref q2), (8, zz_v 1), (9, zz_v ((u + 1 : Nat) : Int))]) rfl ?_
                  refine ge_sup (k' := 14 + 6 * (T 0 9).toNat + 4 * (u + 1)) (by omega) ?_
                  exact ih161 (u + 1) (show u + 1 ≤ (T 0 9).toNat by omega) (show (T 0 9).toNat - (u + 1) < (T 0 9).toNat - u by omega)
            · skip
              refine ge_iconst hC dL_passes_192 ?_
              refine ge_goto hC dL_passes_193 (tgt := 212) (by decide) ?_
              refine ge_istore hC dL_passes_212 (by decide) (lv' := [(10, zz_v 0), (0, .ref (a 0)), (2, .ref ad), (4, zz_v days), (5, .ref q1), (6, .ref q2), (8, zz_v 1), (9, zz_v (u : Int))]) rfl ?_
              refine ge_aload_n hC dL_passes_214 rfl (j := 1) rfl ?_
              refine ge_iload hC dL_passes_215 (j := 7) rfl ?_
              refine ge_iconst hC dL_passes_217 ?_
              refine ge_ask (As := [zz_v (u : Int), zz_v 2]) (rest := []) hC hF (c_X3_about l hl9 N0 _ Y a T7 (u : Int) 2 ⟨by omega, by omega⟩ ⟨by decide, by decide⟩ ICT7) (by refine ⟨?_, ?_, ?_⟩ <;> first | omega | exact fun z => z) (cwV 2 hts gL_passes_X3_about rfl rfl rfl (by decide +kernel) ⟨by decide, by decide⟩) rfl rfl (Nat.le_of_ble_eq_true rfl) dL_passes_218 ⟨show _ ≤ 240 by omega, show _ ≤ 1440 by omega⟩ (fun _ q45r => ?_)
              obtain ⟨a46, a46e⟩ : ∃ a46 : Int, a46 = zz_ab T7 (u : Int).toNat 2 := ⟨_, rfl⟩
              have a46r : zz_R a46 := by rw [a46e]; exact q45r
              refine ge_top (y := a46) a46e.symm ?_
              clear q45r
              refine ge_iload hC dL_passes_221 (j := 0) rfl ?_
              refine ge_icmp_ne hC dL_passes_223 (tgt := 265) (by decide) a46r ⟨by decide, by decide⟩ (fun c47 => (by omega)) (fun c47 => ?_)
              refine ge_aload_n hC dL_passes_226 rfl (j := 1) rfl ?_
              refine ge_iload hC dL_passes_227 (j := 7) rfl ?_
              refine ge_iconst hC dL_passes_229 ?_
              refine ge_ask (As := [zz_v (u : Int), zz_v 0]) (rest := []) hC hF (c_X3_about l hl9 N0 _ Y a T7 (u : Int) 0 ⟨by omega, by omega⟩ ⟨by decide, by decide⟩ ICT7) (by refine ⟨?_, ?_, ?_⟩ <;> first | omega | exact fun z => z) (cwV 2 hts gL_passes_X3_about rfl rfl rfl (by decide +kernel) ⟨by decide, by decide⟩) rfl rfl (Nat.le_of_ble_eq_true rfl) dL_passes_230 ⟨show _ ≤ 240 by omega, show _ ≤ 1440 by omega⟩ (fun _ q48r => ?_)
              obtain ⟨a49, a49e⟩ : ∃ a49 : Int, a49 = zz_ab T7 (u : Int).toNat 0 := ⟨_, rfl⟩
              have a49r : zz_R a49 := by rw [a49e]; exact q48r
              refine ge_top (y := a49) a49e.symm ?_
              clear q48r
              refine ge_aload hC dL_passes_233 (j := 5) rfl ?_
              refine ge_iload hC dL_passes_235 (j := 7) rfl ?_
              refine ge_iald hC hK (q := 2) (j := u) (by decide) rfl rfl (show _ < 16 by omega) dL_passes_237 (fun v50r => ?_)
              refine ge_top (y := V9 2 u) rfl ?_
              have v50s : zz_R (V9 2 u) := v50r
              refine ge_if_ne hC dL_passes_238 (tgt := 250) (by decide) v50s (fun c51 => ?_) (fun c51 => ?_)
              · skip
                refine ge_aload hC dL_passes_250 (j := 5) rfl ?_
                refine ge_iload hC dL_passes_252 (j := 7) rfl ?_
                refine ge_iald hC hK (q := 2) (j := u) (by decide) rfl rfl (show _ < 16 by omega) dL_passes_254 (fun v52r => ?_)
                refine ge_top (y := V9 2 u) rfl ?_
                have v52s : zz_R (V9 2 u) := v52r
                refine ge_bipush hC dL_passes_255 rfl ?_
                refine ge_irem hC dL_passes_257 ⟨by omega, by omega⟩ ⟨by omega, by omega⟩ ?_
                refine ge_icmp_ne hC dL_passes_258 (tgt := 265) (by decide) a49r ⟨by omega, by omega⟩ (fun c53 => (by omega)) (fun c53 => ?_)
                refine ge_iconst hC dL_passes_261 ?_
                refine ge_goto hC dL_passes_262 (tgt := 266) (by decide) ?_
                refine ge_istore hC dL_passes_266 (by decide) (lv' := [(8, zz_v 1), (10, zz_v 0), (0, .ref (a 0)), (2, .ref ad), (4, zz_v days), (5, .ref q1), (6, .ref q2), (9, zz_v (u : Int))]) rfl ?_
                refine ge_iinc hC dL_passes_268 (j := 7) rfl (y := ((u + 1 : Nat) : Int)) (by omega) (by decide) (lv' := [(9, zz_v ((u + 1 : Nat) : Int)), (8, zz_v 1), (10, zz_v 0), (0, .ref (a 0)), (2, .ref ad), (4, zz_v days), (5, .ref q1), (6, .ref q2)]) rfl ?_
                refine ge_goto hC dL_passes_271 (tgt := 161) (by decide) ?_
                refine ge_sub [3, 4, 5, 6, 7, 1, 0] (lv' := [(0, .ref (a 0)), (2, .ref ad), (4, zz_v days), (5, .ref q1), (6, .ref q2), (8, zz_v 1), (9, zz_v ((u + 1 : Nat) : Int))]) rfl ?_
                refine ge_sup (k' := 14 + 6 * (T 0 9).toNat + 4 * (u + 1)) (by omega) ?_
                exact ih161 (u + 1) (show u + 1 ≤ (T 0 9).toNat by omega) (show (T 0 9).toNat - (u + 1) < (T 0 9).toNat - u by omega)
              · skip
                refine ge_iload hC dL_passes_241 (j := 0) rfl ?_
                refine ge_if_ne hC dL_passes_243 (tgt := 250) (by decide) ⟨by decide, by decide⟩ (fun c54 => (by omega)) (fun c54 => ?_)
                refine ge_iconst hC dL_passes_246 ?_
                refine ge_goto hC dL_passes_247 (tgt := 258) (by decide) ?_
                refine ge_icmp_ne hC dL_passes_258 (tgt := 265) (by decide) a49r ⟨by decide, by decide⟩ (fun c55 => (by omega)) (fun c55 => ?_)
                refine ge_iconst hC dL_passes_261 ?_
                refine ge_goto hC dL_passes_262 (tgt := 266) (by decide) ?_
                refine ge_istore hC dL_passes_266 (by decide) (lv' := [(8, zz_v 1), (10, zz_v 0), (0, .ref (a 0)), (2, .ref ad), (4, zz_v days), (5, .ref q1), (6, .ref q2), (9, zz_v (u : Int))]) rfl ?_
                refine ge_iinc hC dL_passes_268 (j := 7) rfl (y := ((u + 1 : Nat) : Int)) (by omega) (by decide) (lv' := [(9, zz_v ((u + 1 : Nat) : Int)), (8, zz_v 1), (10, zz_v 0), (0, .ref (a 0)), (2, .ref ad), (4, zz_v days), (5, .ref q1), (6, .ref q2)]) rfl ?_
                refine ge_goto hC dL_passes_271 (tgt := 161) (by decide) ?_
                refine ge_sub [3, 4, 5, 6, 7, 1, 0] (lv' := [(0, .ref (a 0)), (2, .ref ad), (4, zz_v days), (5, .ref q1), (6, .ref q2), (8, zz_v 1), (9, zz_v ((u + 1 : Nat) : Int))]) rfl ?_
                refine ge_sup (k' := 14 + 6 * (T 0 9).toNat + 4 * (u + 1)) (by omega) ?_
                exact ih161 (u + 1) (show u + 1 ≤ (T 0 9).toNat by omega) (show (T 0 9).toNat - (u + 1) < (T 0 9).toNat - u by omega)
      · exfalso; first | omega | exact hwF
      · exfalso; first | omega | exact hwF
      · skip
        rw [r6e, hT]
        refine ge_istore hC dL_passes_108 (by decide) (lv' := [(7, zz_v (-2000000003)), (0, .ref (a 0)), (1, .ref (a 77)), (2, .ref ad), (4, zz_v days), (5, .ref q1), (6, .ref q2)]) rfl ?_
        refine ge_iload hC dL_passes_110 (j := 0) rfl ?_
        refine ge_ldc hC (n := -2000000003) k23 dL_passes_112 ?_
        refine ge_icmp_ne hC dL_passes_114 (tgt := 135) (by decide) ⟨by decide, by decide⟩ ⟨by decide, by decide⟩ (fun c56 => (by omega)) (fun c56 => ?_)
        refine ge_aload_n hC dL_passes_117 rfl (j := 3) rfl ?_
        refine ge_iconst hC dL_passes_118 ?_
        refine ge_iald hC hK (q := 0) (j := 3) (by decide) rfl rfl (by decide) dL_passes_119 (fun _ => ?_)
        refine ge_top (y := T 0 10) hVL.2.2.2 ?_
        refine ge_iload hC dL_passes_120 (j := 4) rfl ?_
        refine ge_iadd hC dL_passes_122 ?_
        refine ge_sipush hC dL_passes_123 rfl ?_
        refine ge_icmp_le hC dL_passes_126 (tgt := 133) (by decide) ⟨by omega, by omega⟩ ⟨by decide, by decide⟩ (fun c57 => (by omega)) (fun c57 => ?_)
        refine ge_iconst hC dL_passes_129 ?_
        refine ge_goto hC dL_passes_130 (tgt := 134) (by decide) ?_
        refine ge_forget (nA := [ad] ++ [q1]) ?_
        refine ge_forget (nA := [ad]) ?_
        exact ge_ireturn hC hr rfl hlk dL_passes_134 (show _ ≤ 240 by omega) ⟨rfl, T, L, rfl, zi_wide (Nat.le_add_right _ _) hI, by unfold zi_V; first | omega | (refine ⟨?_, ?_, ?_, ?_⟩ <;> omega)⟩
    · skip
      refine ge_aload hC dL_passes_56 (j := 4) rfl ?_
      refine ge_iload hC dL_passes_58 (j := 6) rfl ?_
      refine ge_aload_n hC dL_passes_60 rfl (j := 0) rfl ?_
      refine ge_iload hC dL_passes_61 (j := 6) rfl ?_
      refine ge_iconst hC dL_passes_63 ?_
      refine ge_ask (As := [zz_v (i : Int), zz_v 2]) (rest := [zz_v (i : Int), .ref q1]) hC hF (c_X3_about l hl9 N0 _ Y a T (i : Int) 2 ⟨by omega, by omega⟩ ⟨by decide, by decide⟩ hIC) (by refine ⟨?_, ?_, ?_⟩ <;> first | omega | exact fun z => z) (cwV 2 hts gL_passes_X3_about rfl rfl rfl (by decide +kernel) ⟨by decide, by decide⟩) rfl rfl (Nat.le_of_ble_eq_true rfl) dL_passes_64 ⟨show _ ≤ 240 by omega, show _ ≤ 1440 by omega⟩ (fun _ q58r => ?_)
      obtain ⟨a59, a59e⟩ : ∃ a59 : Int, a59 = zz_ab T (i : Int).toNat 2 := ⟨_, rfl⟩
      have a59r : zz_R a59 := by rw [a59e]; exact q58r
      refine ge_top (y := a59) a59e.symm ?_
      clear q58r
      have a59q : a59 = T (61 + i) 2 := by rw [a59e]; rfl
      refine ge_iast hC hK (q := 1) (j := i) (by decide) rfl rfl (show _ < 16 by omega) a59r dL_passes_67 ?_
      obtain ⟨V60, hV60⟩ : ∃ V60 : zz_S, V60 = zz_u L 1 i a59 := ⟨_, rfl⟩
      refine ge_eq (U' := (T, T, V60)) (by rw [hV60]) ?_
      have dV60_0 : V60 0 0 = T 0 3 := by rw [hV60, zz_u_ne _ _ (by omega)]; exact hVL.1
      have dV60_1 : V60 0 1 = T 0 7 := by rw [hV60, zz_u_ne _ _ (by omega)]; exact hVL.2.1
      have dV60_2 : V60 0 2 = T 0 9 := by rw [hV60, zz_u_ne _ _ (by omega)]; exact hVL.2.2.1
      have dV60_3 : V60 0 3 = T 0 10 := by rw [hV60, zz_u_ne _ _ (by omega)]; exact hVL.2.2.2
      refine ge_aload hC dL_passes_68 (j := 5) rfl ?_
      refine ge_iload hC dL_passes_70 (j := 6) rfl ?_
      refine ge_aload_n hC dL_passes_72 rfl (j := 0) rfl ?_
      refine ge_iload hC dL_passes_73 (j := 6) rfl ?_
      refine ge_iconst hC dL_passes_75 ?_
      refine ge_ask (As := [zz_v (i : Int), zz_v 0]) (rest := [zz_v (i : Int), .ref q2]) hC hF (c_X3_about l hl9 N0 _ Y a T (i : Int) 0 ⟨by omega, by omega⟩ ⟨by decide, by decide⟩ hIC) (by refine ⟨?_, ?_, ?_⟩ <;> first | omega | exact fun z => z) (cwV 2 hts gL_passes_X3_about rfl rfl rfl (by decide +kernel) ⟨by decide, by decide⟩) rfl rfl (Nat.le_of_ble_eq_true rfl) dL_passes_76 ⟨show _ ≤ 240 by omega, show _ ≤ 1440 by omega⟩ (fun _ q61r => ?_)
      obtain ⟨a62, a62e⟩ : ∃ a62 : Int, a62 = zz_ab T (i : Int).toNat 0 := ⟨_, rfl⟩
      have a62r : zz_R a62 := by rw [a62e]; exact q61r
      refine ge_top (y := a62) a62e.symm ?_
      clear q61r
      have a62q : a62 = T (61 + i) 1 := by rw [a62e]; rfl
      refine ge_bipush hC dL_passes_79 rfl ?_
      refine ge_aload_n hC dL_passes_81 rfl (j := 0) rfl ?_
      refine ge_iload hC dL_passes_82 (j := 6) rfl ?_
      refine ge_iconst hC dL_passes_84 ?_
      refine ge_ask (As := [zz_v (i : Int), zz_v 4]) (rest := [zz_v 10, zz_v a62, zz_v (i : Int), .ref q2]) hC hF (c_X3_about l hl9 N0 _ Y a T (i : Int) 4 ⟨by omega, by omega⟩ ⟨by decide, by decide⟩ hIC) (by refine ⟨?_, ?_, ?_⟩ <;> first | omega | exact fun z => z) (cwV 2 hts gL_passes_X3_about rfl rfl rfl (by decide +kernel) ⟨by decide, by decide⟩) rfl rfl (Nat.le_of_ble_eq_true rfl) dL_passes_85 ⟨show _ ≤ 240 by omega, show _ ≤ 1440 by omega⟩ (fun _ q63r => ?_)
      obtain ⟨a64, a64e⟩ : ∃ a64 : Int, a64 = zz_ab T (i : Int).toNat 4 := ⟨_, rfl⟩
      have a64r : zz_R a64 := by rw [a64e]; exact q63r
      refine ge_top (y := a64) a64e.symm ?_
      clear q63r
      have a64q : a64 = if T (61 + i) 4 = 1 then 1 else 0 := by rw [a64e]; rfl
      refine ge_imul hC dL_passes_88 ?_
      refine ge_iadd hC dL_passes_89 ?_
      refine ge_iast hC hK (q := 2) (j := i) (by decide) rfl rfl (show _ < 16 by omega) ⟨by omega, by omega⟩ dL_passes_90 ?_
      obtain ⟨V65, hV65⟩ : ∃ V65 : zz_S, V65 = zz_u V60 2 i (a62 + (10 * a64)) := ⟨_, rfl⟩
      refine ge_eq (U' := (T, T, V65)) (by rw [hV65]) ?_
      have dV65_0 : V65 0 0 = T 0 3 := by rw [hV65, zz_u_ne _ _ (by omega)]; exact dV60_0
      have dV65_1 : V65 0 1 = T 0 7 := by rw [hV65, zz_u_ne _ _ (by omega)]; exact dV60_1
      have dV65_2 : V65 0 2 = T 0 9 := by rw [hV65, zz_u_ne _ _ (by omega)]; exact dV60_2
      have dV65_3 : V65 0 3 = T 0 10 := by rw [hV65, zz_u_ne _ _ (by omega)]; exact dV60_3
      refine ge_iinc hC dL_passes_91 (j := 6) rfl (y := ((i + 1 : Nat) : Int)) (by omega) (by decide) (lv' := [(7, zz_v ((i + 1 : Nat) : Int)), (0, .ref (a 0)), (1, .ref (a 77)), (2, .ref ad), (4, zz_v days), (5, .ref q1), (6, .ref q2)]) rfl ?_
      refine ge_goto hC dL_passes_94 (tgt := 48) (by decide) ?_
      refine ge_sub [1, 2, 3, 4, 5, 6, 0] (lv' := [(0, .ref (a 0)), (1, .ref (a 77)), (2, .ref ad), (4, zz_v days), (5, .ref q1), (6, .ref q2), (7, zz_v ((i + 1 : Nat) : Int))]) rfl ?_
      refine ge_sup (k' := 6 + 6 * (i + 1)) (by omega) ?_
      refine ih48 (i + 1, V65) ⟨by omega, ⟨dV65_0, dV65_1, dV65_2, dV65_3⟩, fun j hj => ?_⟩ (show (T 0 9).toNat - (i + 1) < (T 0 9).toNat - i by omega)
      by_cases e9 : j = i
      · rw [e9, hV65, zz_u_same, zz_u_ne _ _ (by omega), hV60, zz_u_same]
        exact ⟨a59q, by rw [a62q, a64q]⟩
      · rw [hV65, zz_u_ne _ _ (by omega), zz_u_ne _ _ (by omega), hV60, zz_u_ne _ _ (by omega), zz_u_ne _ _ (by omega)]
        exact hL j (by omega)
  · skip
    refine ge_iconst hC dL_passes_8 ?_
    refine ge_iload_n hC dL_passes_9 rfl (j := 3) rfl ?_
    refine ge_iconst hC dL_passes_10 ?_
    refine ge_ishrX hC dL_passes_11 (fun z66 z66r => ?_)
    obtain ⟨z66a, z66b⟩ := id z66r
    refine ge_bipush hC dL_passes_12 rfl ?_
    refine ge_some (x := z66) (n := 100) (rest := [zz_v 1]) hC hF ⟨by omega, by omega⟩ (va_cwS 2 hts gL_passes_L_some rfl rfl rfl (by decide +kernel) ⟨by decide, by decide⟩) rfl (Nat.le_of_ble_eq_true rfl) dL_passes_14 ⟨show _ ≤ 240 by omega, show _ ≤ 1440 by omega⟩ (fun s67 s67a s67b => ?_)
    refine ge_iadd hC dL_passes_17 ?_
    refine ge_goto hC dL_passes_18 (tgt := 31) (by decide) ?_
    obtain ⟨days, hdays⟩ : ∃ days : Int, days = 1 + s67 := ⟨_, rfl⟩
    have hdr : 1 ≤ days ∧ days ≤ 100 := by omega
    refine ge_top (y := days) hdays.symm ?_
    refine ge_istore hC dL_passes_31 (by decide) (lv' := [(4, zz_v days), (0, .ref (a 0)), (1, .ref (a 77)), (2, .ref ad), (3, zz_v z)]) rfl ?_
    refine ge_bipush hC dL_passes_33 rfl ?_
    refine ge_newa hC hF.1 (hts _ (by decide +kernel)) hK (by decide) ⟨show _ ≤ 240 by omega, show _ ≤ 1440 by omega⟩ dL_passes_35 (fun q1 => ?_)
    refine ge_astore hC dL_passes_37 (by decide) (lv' := [(5, .ref q1), (4, zz_v days), (0, .ref (a 0)), (1, .ref (a 77)), (2, .ref ad), (3, zz_v z)]) rfl ?_
    refine ge_bipush hC dL_passes_39 rfl ?_
    refine ge_newa hC hF.1 (hts _ (by decide +kernel)) hK (by decide) ⟨show _ ≤ 240 by omega, show _ ≤ 1440 by omega⟩ dL_passes_41 (fun q2 => ?_)
    obtain ⟨Vz, hVz⟩ : ∃ Vz : zz_S, Vz = va_up (va_up V 1 (fun _ => 0)) 2 (fun _ => 0) := ⟨_, rfl⟩
    refine ge_eq (U' := (T, T, Vz)) (by rw [hVz]; rfl) ?_
    have hz0 : Vz 0 = V 0 := by rw [hVz, va_up_ne _ _ (by omega), va_up_ne _ _ (by omega)]
    have hVv : zi_V T Vz := by unfold zi_V at *; rw [hz0]; exact hV
    refine ge_astore hC dL_passes_43 (by decide) (lv' := [(6, .ref q2), (5, .ref q1), (4, zz_v days), (0, .ref (a 0)), (1, .ref (a 77)), (2, .ref ad), (3, zz_v z)]) rfl ?_
    refine ge_iconst hC dL_passes_45 ?_
    refine ge_istore hC dL_passes_46 (by decide) (lv' := [(7, zz_v 0), (6, .ref q2), (5, .ref q1), (4, zz_v days), (0, .ref (a 0)), (1, .ref (a 77)), (2, .ref ad), (3, zz_v z)]) rfl ?_
    refine ge_sub [4, 5, 6, 3, 2, 1, 0] (lv' := [(0, .ref (a 0)), (1, .ref (a 77)), (2, .ref ad), (4, zz_v days), (5, .ref q1), (6, .ref q2), (7, zz_v 0)]) rfl ?_
    refine ge_loopA (σ := Nat × zz_S) (μ := fun vz => (T 0 9).toNat - vz.1) (I := fun vz => vz.1 ≤ (T 0 9).toNat ∧ zi_V T vz.2 ∧ ∀ j : Nat, j < vz.1 → vz.2 1 j = T (61 + j) 2 ∧ vz.2 2 j = T (61 + j) 1 + 10 * (if T (61 + j) 4 = 1 then 1 else 0)) (kf := fun vz => 6 + 6 * vz.1) (Uf := fun vz => (T, T, vz.2)) (lf := fun vz => [(0, .ref (a 0)), (1, .ref (a 77)), (2, .ref ad), (4, zz_v days), (5, .ref q1), (6, .ref q2), (7, zz_v (vz.1 : Int))]) (0, Vz) ⟨Nat.zero_le _, hVv, fun j hj => absurd hj (by omega)⟩ (by rfl) rfl rfl (fun ⟨i, L⟩ hI9 ih48 => ?_)
    obtain ⟨hi, hVL, hL⟩ : i ≤ (T 0 9).toNat ∧ zi_V T L ∧ ∀ j : Nat, j < i → L 1 j = T (61 + j) 2 ∧ L 2 j = T (61 + j) 1 + 10 * (if T (61 + j) 4 = 1 then 1 else 0) := hI9
    refine ge_lveq (lv' := [(0, .ref (a 0)), (1, .ref (a 77)), (2, .ref ad), (4, zz_v days), (5, .ref q1), (6, .ref q2), (7, zz_v (i : Int))]) rfl ?_
    refine ge_eq (U' := (T, T, L)) rfl ?_
    refine ge_sup (k' := 6 + 6 * i) rfl ?_
    refine ge_iload hC dL_passes_48 (j := 6) rfl ?_
    refine ge_aload_n hC dL_passes_50 rfl (j := 2) rfl ?_
    refine ge_iconst hC dL_passes_51 ?_
    refine ge_iald hC hK (q := 0) (j := 2) (by decide) rfl rfl (by decide) dL_passes_52 (fun _ => ?_)
    refine ge_top (y := T 0 9) hVL.2.2.1 ?_
    refine ge_icmp_ge hC dL_passes_53 (tgt := 97) (by decide) ⟨by omega, by omega⟩ ⟨by omega, by omega⟩ (fun c68 => ?_) (fun c68 => ?_)
    · skip
      obtain rfl : i = (T 0 9).toNat := by omega
      refine ge_aload_n hC dL_passes_97 rfl (j := 0) rfl ?_
      refine ge_aload_n hC dL_passes_98 rfl (j := 1) rfl ?_
      refine ge_bipush hC dL_passes_99 rfl ?_
      refine ge_iload hC dL_passes_101 (j := 3) rfl ?_
      refine ge_iconst hC dL_passes_103 ?_
      refine ge_iconst hC dL_passes_104 ?_
      refine ge_both (what := 16) (x := days) (y := 0) (w := 0) (rest := []) hl9 hC hF (fun G' a' => (c_L_does_pass l hl9 N0 G' Y a' T 0 0 days ⟨by omega, by omega⟩ hIC)) (by refine ⟨fun z9 => ⟨?_, ?_, ?_⟩, fun z9 => ⟨?_, ?_⟩, fun z9 => ?_⟩ <;> intro z8 <;> first | exact z8.elim | exact z9.elim | omega) (va_cwS 6 hts gL_passes_L_both rfl rfl rfl (by decide +kernel) ⟨by decide, by decide⟩) rfl (Nat.le_of_ble_eq_true rfl) dL_passes_105 ⟨show _ ≤ 240 by omega, show _ ≤ 1440 by omega⟩ (fun r69 T70 r69r hw => ?_)
      rcases hw with ⟨r69e, hwF, hT⟩ | ⟨r69e, hwF, hT⟩ | ⟨r69e, hwF, hT⟩ | ⟨r69e, hwF, hT⟩
      · skip
        have hT1 : T70 = zk_pS T days := hT
        obtain ⟨j1, ⟨j3, j7, j9, j10⟩, jr⟩ := zk_pass (x := days) hI (by omega) (by omega)
        rw [← hT1] at j1 j3 j7 j9 j10 jr
        have ICT70 : zz_IC T70 := zi_IC (by omega) j1
        have r69q : r69 = T 0 10 + days := r69e
        refine ge_istore hC dL_passes_108 (by decide) (lv' := [(7, zz_v r69), (0, .ref (a 0)), (1, .ref (a 77)), (2, .ref ad), (4, zz_v days), (5, .ref q1), (6, .ref q2)]) rfl ?_
        refine ge_iload hC dL_passes_110 (j := 0) rfl ?_
        refine ge_ldc hC (n := -2000000003) k23 dL_passes_112 ?_
        refine ge_icmp_ne hC dL_passes_114 (tgt := 135) (by decide) r69r ⟨by decide, by decide⟩ (fun c71 => ?_) (fun c71 => (by omega))
        refine ge_aload_n hC dL_passes_135 rfl (j := 3) rfl ?_
        refine ge_iconst hC dL_passes_136 ?_
        refine ge_dup2 hC dL_passes_137 rfl rfl ?_
        refine ge_iald hC hK (q := 0) (j := 3) (by decide) rfl rfl (by decide) dL_passes_138 (fun _ => ?_)
        refine ge_top (y := T 0 10) hVL.2.2.2 ?_
        refine ge_iload hC dL_passes_139 (j := 4) rfl ?_
        refine ge_iadd hC dL_passes_141 ?_
        refine ge_iast hC hK (q := 0) (j := 3) (by decide) rfl rfl (by decide) ⟨by omega, by omega⟩ dL_passes_142 ?_
        obtain ⟨V72, hV72⟩ : ∃ V72 : zz_S, V72 = zz_u L 0 3 ((T 0 10) + days) := ⟨_, rfl⟩
        refine ge_eq (U' := (T70, T70, V72)) (by rw [hV72]) ?_
        have dV72_0 : V72 0 0 = T 0 3 := by rw [hV72, zz_u_ne _ _ (by omega)]; exact hVL.1
        have dV72_1 : V72 0 1 = T 0 7 := by rw [hV72, zz_u_ne _ _ (by omega)]; exact hVL.2.1
        have dV72_2 : V72 0 2 = T 0 9 := by rw [hV72, zz_u_ne _ _ (by omega)]; exact hVL.2.2.1
        have dV72_3 : V72 0 3 = (T 0 10) + days := by rw [hV72, zz_u_same]
        have wV72_1 : V72 1 = L 1 := by rw [hV72, zz_u_off _ _ (by omega)]
        have wV72_2 : V72 2 = L 2 := by rw [hV72, zz_u_off _ _ (by omega)]
        refine ge_iload hC dL_passes_143 (j := 0) rfl ?_
        refine ge_aload_n hC dL_passes_145 rfl (j := 3) rfl ?_
        refine ge_iconst hC dL_passes_146 ?_
        refine ge_iald hC hK (q := 0) (j := 3) (by decide) rfl rfl (by decide) dL_passes_147 (fun _ => ?_)
        refine ge_top (y := (T 0 10) + days) dV72_3 ?_
        refine ge_icmp_ne hC dL_passes_148 (tgt := 155) (by decide) r69r ⟨by omega, by omega⟩ (fun c73 => (by omega)) (fun c73 => ?_)
        refine ge_iconst hC dL_passes_151 ?_
        refine ge_goto hC dL_passes_152 (tgt := 156) (by decide) ?_
        refine ge_istore hC dL_passes_156 (by decide) (lv' := [(8, zz_v 1), (7, zz_v r69), (0, .ref (a 0)), (1, .ref (a 77)), (2, .ref ad), (4, zz_v days), (5, .ref q1), (6, .ref q2)]) rfl ?_
        refine ge_iconst hC dL_passes_158 ?_
        refine ge_istore hC dL_passes_159 (by decide) (lv' := [(9, zz_v 0), (8, zz_v 1), (7, zz_v r69), (0, .ref (a 0)), (1, .ref (a 77)), (2, .ref ad), (4, zz_v days), (5, .ref q1), (6, .ref q2)]) rfl ?_
        refine ge_sub [3, 5, 6, 7, 8, 1, 0] (lv' := [(0, .ref (a 0)), (2, .ref ad), (4, zz_v days), (5, .ref q1), (6, .ref q2), (8, zz_v 1), (9, zz_v 0)]) rfl ?_
        refine ge_loopA (σ := Nat) (μ := fun vz => (T 0 9).toNat - vz) (I := fun vz => vz ≤ (T 0 9).toNat) (kf := fun vz => 14 + 6 * (T 0 9).toNat + 4 * vz) (Uf := fun vz => (T70, T70, V72)) (lf := fun vz => [(0, .ref (a 0)), (2, .ref ad), (4, zz_v days), (5, .ref q1), (6, .ref q2), (8, zz_v 1), (9, zz_v (vz : Int))]) 0 (Nat.zero_le _) (show _ = 14 + 6 * (T 0 9).toNat + 4 * 0 by omega) rfl rfl (fun u hu9 ih161 => ?_)
        have hu : u ≤ (T 0 9).toNat := hu9
        refine ge_lveq (lv' := [(0, .ref (a 0)), (2, .ref ad), (4, zz_v days), (5, .ref q1), (6, .ref q2), (8, zz_v 1), (9, zz_v (u : Int))]) rfl ?_
        refine ge_eq (U' := (T70, T70, V72)) rfl ?_
        refine ge_sup (k' := 14 + 6 * (T 0 9).toNat + 4 * u) rfl ?_
        refine ge_iload hC dL_passes_161 (j := 6) rfl ?_
        refine ge_aload_n hC dL_passes_163 rfl (j := 1) rfl ?_
        refine ge_iconst hC dL_passes_164 ?_
        refine ge_iald hC hK (q := 0) (j := 2) (by decide) rfl rfl (by decide) dL_passes_165 (fun _ => ?_)
        refine ge_top (y := T 0 9) dV72_2 ?_
        refine ge_icmp_ge hC dL_passes_166 (tgt := 274) (by decide) ⟨by omega, by omega⟩ ⟨by omega, by omega⟩ (fun c74 => ?_) (fun c74 => ?_)
        · skip
          refine ge_iload hC dL_passes_274 (j := 5) rfl ?_
          refine ge_forget (nA := [ad] ++ [q1]) ?_
          refine ge_forget (nA := [ad]) ?_
          exact ge_ireturn hC hr rfl hlk dL_passes_276 (show _ ≤ 240 by omega) ⟨rfl, T70, V72, rfl, zi_wide (Nat.le_add_right _ _) j1, by unfold zi_V; first | omega | (refine ⟨?_, ?_, ?_, ?_⟩ <;> omega)⟩
        · skip
          refine ge_iload hC dL_passes_169 (j := 5) rfl ?_
          refine ge_if_eq hC dL_passes_171 (tgt := 274) (by decide) ⟨by decide, by decide⟩ (fun c75 => (by omega)) (fun c75 => ?_)
          obtain ⟨g2, g1⟩ := jr u (by omega)
          obtain ⟨l1, l2⟩ := hL u (by omega)
          rw [← wV72_1] at l1
          rw [← wV72_2] at l2
          obtain ⟨h1, h2, h3, h4, h5, h6, h7, h8, h9, h10, h11, h12⟩ := hH.2 u (by omega)
          unfold zk_due at g2
          unfold zk_sta zk_due at g1
          rw [← l1, ← l2] at g2
          rw [← l1, ← l2] at g1
          refine ge_aload hC dL_passes_174 (j := 4) rfl ?_
          refine ge_iload hC dL_passes_176 (j := 6) rfl ?_
          refine ge_iald hC hK (q := 2) (j := u) (by decide) rfl rfl (show _ < 16 by omega) dL_passes_178 (fun v76r => ?_)
          refine ge_top (y := V72 2 u) rfl ?_
          have v76s : zz_R (V72 2 u) := v76r
          refine ge_if_ne hC dL_passes_179 (tgt := 207) (by decide) v76s (fun c77 => ?_) (fun c77 => ?_)
          · skip
            refine ge_aload hC dL_passes_207 (j := 3) rfl ?_
            refine ge_iload hC dL_passes_209 (j := 6) rfl ?_
            refine ge_iald hC hK (q := 1) (j := u) (by decide) rfl rfl (show _ < 16 by omega) dL_passes_211 (fun v78r => ?_)
            refine ge_top (y := V72 1 u) rfl ?_
            have v78s : zz_R (V72 1 u) := v78r
            refine ge_istore hC dL_passes_212 (by decide) (lv' := [(10, zz_v (V72 1 u)), (0, .ref (a 0)), (2, .ref ad), (4, zz_v days), (5, .ref q1), (6, .ref q2), (8, zz_v 1), (9, zz_v (u : Int))]) rfl ?_
            refine ge_aload_n hC dL_passes_214 rfl (j := 1) rfl ?_
            refine ge_iload hC dL_passes_215 (j := 7) rfl ?_
            refine ge_iconst hC dL_passes_217 ?_
            refine ge_ask (As := [zz_v (u : Int), zz_v 2]) (rest := []) hC hF (c_X3_about l hl9 N0 _ Y a T70 (u : Int) 2 ⟨by omega, by omega⟩ ⟨by decide, by decide⟩ ICT70) (by refine ⟨?_, ?_, ?_⟩ <;> first | omega | exact fun z => z) (cwV 2 hts gL_passes_X3_about rfl rfl rfl (by decide +kernel) ⟨by decide, by decide⟩) rfl rfl (Nat.le_of_ble_eq_true rfl) dL_passes_218 ⟨show _ ≤ 240 by omega, show _ ≤ 1440 by omega⟩ (fun _ q79r => ?_)
            obtain ⟨a80, a80e⟩ : ∃ a80 : Int, a80 = zz_ab T70 (u : Int).toNat 2 := ⟨_, rfl⟩
            have a80r : zz_R a80 := by rw [a80e]; exact q79r
            refine ge_top (y := a80) a80e.symm ?_
            clear q79r
            refine ge_iload hC dL_passes_221 (j := 0) rfl ?_
            refine ge_icmp_ne hC dL_passes_223 (tgt := 265) (by decide) a80r v78s (fun c81 => (by omega)) (fun c81 => ?_)
            refine ge_aload_n hC dL_passes_226 rfl (j := 1) rfl ?_
            refine ge_iload hC dL_passes_227 (j := 7) rfl ?_
            refine ge_iconst hC dL_passes_229 ?_
            refine ge_ask (As := [zz_v (u : Int), zz_v 0]) (rest := []) hC hF (c_X3_about l hl9 N0 _ Y a T70 (u : Int) 0 ⟨by omega, by omega⟩ ⟨by decide, by decide⟩ ICT70) (by refine ⟨?_, ?_, ?_⟩ <;> first | omega | exact fun z => z) (cwV 2 hts gL_passes_X3_about rfl rfl rfl (by decide +kernel) ⟨by decide, by decide⟩) rfl rfl (Nat.le_of_ble_eq_true rfl) dL_passes_230 ⟨show _ ≤ 240 by omega, show _ ≤ 1440 by omega⟩ (fun _ q82r => ?_)
            obtain ⟨a83, a83e⟩ : ∃ a83 : Int, a83 = zz_ab T70 (u : Int).toNat 0 := ⟨_, rfl⟩
            have a83r : zz_R a83 := by rw [a83e]; exact q82r
            refine ge_top (y := a83) a83e.symm ?_
            clear q82r
            refine ge_aload hC dL_passes_233 (j := 5) rfl ?_
            refine ge_iload hC dL_passes_235 (j := 7) rfl ?_
            refine ge_iald hC hK (q := 2) (j := u) (by decide) rfl rfl (show _ < 16 by omega) dL_passes_237 (fun v84r => ?_)
            refine ge_top (y := V72 2 u) rfl ?_
            have v84s : zz_R (V72 2 u) := v84r
            refine ge_if_ne hC dL_passes_238 (tgt := 250) (by decide) v84s (fun c85 => ?_) (fun c85 => ?_)
            · skip
              refine ge_aload hC dL_passes_250 (j := 5) rfl ?_
              refine ge_iload hC dL_passes_252 (j := 7) rfl ?_
              refine ge_iald hC hK (q := 2) (j := u) (by decide) rfl rfl (show _ < 16 by omega) dL_passes_254 (fun v86r => ?_)
              refine ge_top (y := V72 2 u) rfl ?_
              have v86s : zz_R (V72 2 u) := v86r
              refine ge_bipush hC dL_passes_255 rfl ?_
              refine ge_irem hC dL_passes_257 ⟨by omega, by omega⟩ ⟨by omega, by omega⟩ ?_
              refine ge_icmp_ne hC dL_passes_258 (tgt := 265) (by decide) a83r ⟨by omega, by omega⟩ (fun c87 => (by omega)) (fun c87 => ?_)
              refine ge_iconst hC dL_passes_261 ?_
              refine ge_goto hC dL_passes_262 (tgt := 266) (by decide) ?_
              refine ge_istore hC dL_passes_266 (by decide) (lv' := [(8, zz_v 1), (10, zz_v (V72 1 u)), (0, .ref (a 0)), (2, .ref ad), (4, zz_v days), (5, .ref q1), (6, .ref q2), (9, zz_v (u : Int))]) rfl ?_
              refine ge_iinc hC dL_passes_268 (j := 7) rfl (y := ((u + 1 : Nat) : Int)) (by omega) (by decide) (lv' := [(9, zz_v ((u + 1 : Nat) : Int)), (8, zz_v 1), (10, zz_v (V72 1 u)), (0, .ref (a 0)), (2, .ref ad), (4, zz_v days), (5, .ref q1), (6, .ref q2)]) rfl ?_
              refine ge_goto hC dL_passes_271 (tgt := 161) (by decide) ?_
              refine ge_sub [3, 4, 5, 6, 7, 1, 0] (lv' := [(0, .ref (a 0)), (2, .ref ad), (4, zz_v days), (5, .ref q1), (6, .ref q2), (8, zz_v 1), (9, zz_v ((u + 1 : Nat) : Int))]) rfl ?_
              refine ge_sup (k' := 14 + 6 * (T 0 9).toNat + 4 * (u + 1)) (by omega) ?_
              exact ih161 (u + 1) (show u + 1 ≤ (T 0 9).toNat by omega) (show (T 0 9).toNat - (u + 1) < (T 0 9).toNat - u by omega)
            · skip
              refine ge_iload hC dL_passes_241 (j := 0) rfl ?_
              refine ge_if_ne hC dL_passes_243 (tgt := 250) (by decide) v78s (fun c88 => ?_) (fun c88 => ?_)
              · skip
                refine ge_aload hC dL_passes_250 (j := 5) rfl ?_
                refine ge_iload hC dL_passes_252 (j := 7) rfl ?_
                refine ge_iald hC hK (q := 2) (j := u) (by decide) rfl rfl (show _ < 16 by omega) dL_passes_254 (fun v89r => ?_)
                refine ge_top (y := V72 2 u) rfl ?_
                have v89s : zz_R (V72 2 u) := v89r
                refine ge_bipush hC dL_passes_255 rfl ?_
                refine ge_irem hC dL_passes_257 ⟨by omega, by omega⟩ ⟨by omega, by omega⟩ ?_
                refine ge_icmp_ne hC dL_passes_258 (tgt := 265) (by decide) a83r ⟨by omega, by omega⟩ (fun c90 => (by omega)) (fun c90 => ?_)
                refine ge_iconst hC dL_passes_261 ?_
                refine ge_goto hC dL_passes_262 (tgt := 266) (by decide) ?_
                refine ge_istore hC dL_passes_266 (by decide) (lv' := [(8, zz_v 1), (10, zz_v (V72 1 u)), (0, .ref (a 0)), (2, .ref ad), (4, zz_v days), (5, .ref q1), (6, .ref q2), (9, zz_v (u : Int))]) rfl ?_
                refine ge_iinc hC dL_passes_268 (j := 7) rfl (y := ((u + 1 : Nat) : Int)) (by omega) (by decide) (lv' := [(9, zz_v ((u + 1 : Nat) : Int)), (8, zz_v 1), (10, zz_v (V72 1 u)), (0, .ref (a 0)), (2, .ref ad), (4, zz_v days), (5, .ref q1), (6, .ref q2)]) rfl ?_
                refine ge_goto hC dL_passes_271 (tgt := 161) (by decide) ?_
                refine ge_sub [3, 4, 5, 6, 7, 1, 0] (lv' := [(0, .ref (a 0)), (2, .ref ad), (4, zz_v days), (5, .ref q1), (6, .ref q2), (8, zz_v 1), (9, zz_v ((u + 1 : Nat) : Int))]) rfl ?_
                refine ge_sup (k' := 14 + 6 * (T 0 9).toNat + 4 * (u + 1)) (by omega) ?_
                exact ih161 (u + 1) (show u + 1 ≤ (T 0 9).toNat by omega) (show (T 0 9).toNat - (u + 1) < (T 0 9).toNat - u by omega)
              · skip
                refine ge_iconst hC dL_passes_246 ?_
                refine ge_goto hC dL_passes_247 (tgt := 258) (by decide) ?_
                refine ge_icmp_ne hC dL_passes_258 (tgt := 265) (by decide) a83r ⟨by decide, by decide⟩ (fun c91 => (by omega)) (fun c91 => ?_)
                refine ge_iconst hC dL_passes_261 ?_
                refine ge_goto hC dL_passes_262 (tgt := 266) (by decide) ?_
                refine ge_istore hC dL_passes_266 (by decide) (lv' := [(8, zz_v 1), (10, zz_v (V72 1 u)), (0, .ref (a 0)), (2, .ref ad), (4, zz_v days), (5, .ref q1), (6, .ref q2), (9, zz_v (u : Int))]) rfl ?_
                refine ge_iinc hC dL_passes_268 (j := 7) rfl (y := ((u + 1 : Nat) : Int)) (by omega) (by decide) (lv' := [(9, zz_v ((u + 1 : Nat) : Int)), (8, zz_v 1), (10, zz_v (V72 1 u)), (0, .ref (a 0)), (2, .ref ad), (4, zz_v days), (5, .ref q1), (6, .ref q2)]) rfl ?_
                refine ge_goto hC dL_passes_271 (tgt := 161) (by decide) ?_
                refine ge_sub [3, 4, 5, 6, 7, 1, 0] (lv' := [(0, .ref (a 0)), (2, .ref ad), (4, zz_v days), (5, .ref q1), (6, .ref q2), (8, zz_v 1), (9, zz_v ((u + 1 : Nat) : Int))]) rfl ?_
                refine ge_sup (k' := 14 + 6 * (T 0 9).toNat + 4 * (u + 1)) (by omega) ?_
                exact ih161 (u + 1) (show u + 1 ≤ (T 0 9).toNat by omega) (show (T 0 9).toNat - (u + 1) < (T 0 9).toNat - u by omega)
          · skip
            refine ge_aload hC dL_passes_182 (j := 3) rfl ?_
            refine ge_iload hC dL_passes_184 (j := 6) rfl ?_
            refine ge_iald hC hK (q := 1) (j := u) (by decide) rfl rfl (show _ < 16 by omega) dL_passes_186 (fun v92r => ?_)
            refine ge_top (y := V72 1 u) rfl ?_
            have v92s : zz_R (V72 1 u) := v92r
            refine ge_iload hC dL_passes_187 (j := 2) rfl ?_
            refine ge_icmp_ge hC dL_passes_189 (tgt := 196) (by decide) v92s ⟨by omega, by omega⟩ (fun c93 => ?_) (fun c93 => ?_)
            · skip
              refine ge_aload hC dL_passes_196 (j := 3) rfl ?_
              refine ge_iload hC dL_passes_198 (j := 6) rfl ?_
              refine ge_iald hC hK (q := 1) (j := u) (by decide) rfl rfl (show _ < 16 by omega) dL_passes_200 (fun v94r => ?_)
              refine ge_top (y := V72 1 u) rfl ?_
              have v94s : zz_R (V72 1 u) := v94r
              refine ge_iload hC dL_passes_201 (j := 2) rfl ?_
              refine ge_isub hC dL_passes_203 ?_
              refine ge_goto hC dL_passes_204 (tgt := 212) (by decide) ?_
              refine ge_istore hC dL_passes_212 (by decide) (lv' := [(10, zz_v ((V72 1 u) - days)), (0, .ref (a 0)), (2, .ref ad), (4, zz_v days), (5, .ref q1), (6, .ref q2), (8, zz_v 1), (9, zz_v (u : Int))]) rfl ?_
              refine ge_aload_n hC dL_passes_214 rfl (j := 1) rfl ?_
              refine ge_iload hC dL_passes_215 (j := 7) rfl ?_
              refine ge_iconst hC dL_passes_217 ?_
              refine ge_ask (As := [zz_v (u : Int), zz_v 2]) (rest := []) hC hF (c_X3_about l hl9 N0 _ Y a T70 (u : Int) 2 ⟨by omega, by omega⟩ ⟨by decide, by decide⟩ ICT70) (by refine ⟨?_, ?_, ?_⟩ <;> first | omega | exact fun z => z) (cwV 2 hts gL_passes_X3_about rfl rfl rfl (by decide +kernel) ⟨by decide, by decide⟩) rfl rfl (Nat.le_of_ble_eq_true rfl) dL_passes_218 ⟨show _ ≤ 240 by omega, show _ ≤ 1440 by omega⟩ (fun _ q95r => ?_)
              obtain ⟨a96, a96e⟩ : ∃ a96 : Int, a96 = zz_ab T70 (u : Int).toNat 2 := ⟨_, rfl⟩
              have a96r : zz_R a96 := by rw [a96e]; exact q95r
              refine ge_top (y := a96) a96e.symm ?_
              clear q95r
              refine ge_iload hC dL_passes_221 (j := 0) rfl ?_
              refine ge_icmp_ne hC dL_passes_223 (tgt := 265) (by decide) a96r ⟨by omega, by omega⟩ (fun c97 => (by omega)) (fun c97 => ?_)
              refine ge_aload_n hC dL_passes_226 rfl (j := 1) rfl ?_
              refine ge_iload hC dL_passes_227 (j := 7) rfl ?_
              refine ge_iconst hC dL_passes_229 ?_
              refine ge_ask (As := [zz_v (u : Int), zz_v 0]) (rest := []) hC hF (c_X3_about l hl9 N0 _ Y a T70 (u : Int) 0 ⟨by omega, by omega⟩ ⟨by decide, by decide⟩ ICT70) (by refine ⟨?_, ?_, ?_⟩ <;> first | omega | exact fun z => z) (cwV 2 hts gL_passes_X3_about rfl rfl rfl (by decide +kernel) ⟨by decide, by decide⟩) rfl rfl (Nat.le_of_ble_eq_true rfl) dL_passes_230 ⟨show _ ≤ 240 by omega, show _ ≤ 1440 by omega⟩ (fun _ q98r => ?_)
              obtain ⟨a99, a99e⟩ : ∃ a99 : Int, a99 = zz_ab T70 (u : Int).toNat 0 := ⟨_, rfl⟩
              have a99r : zz_R a99 := by rw [a99e]; exact q98r
              refine ge_top (y := a99) a99e.symm ?_
              clear q98r
              refine ge_aload hC dL_passes_233 (j := 5) rfl ?_
              refine ge_iload hC dL_passes_235 (j := 7) rfl ?_
              refine ge_iald hC hK (q := 2) (j := u) (by decide) rfl rfl (show _ < 16 by omega) dL_passes_237 (fun v100r => ?_)
              refine ge_top (y := V72 2 u) rfl ?_
              have v100s : zz_R (V72 2 u) := v100r
              refine ge_if_ne hC dL_passes_238 (tgt := 250) (by decide) v100s (fun c101 => ?_) (fun c101 => ?_)
              · skip
                refine ge_aload hC dL_passes_250 (j := 5) rfl ?_
                refine ge_iload hC dL_passes_252 (j := 7) rfl ?_
                refine ge_iald hC hK (q := 2) (j := u) (by decide) rfl rfl (show _ < 16 by omega) dL_passes_254 (fun v102r => ?_)
                refine ge_top (y := V72 2 u) rfl ?_
                have v102s : zz_R (V72 2 u) := v102r
                refine ge_bipush hC dL_passes_255 rfl ?_
                refine ge_irem hC dL_passes_257 ⟨by omega, by omega⟩ ⟨by omega, by omega⟩ ?_
                refine ge_icmp_ne hC dL_passes_258 (tgt := 265) (by decide) a99r ⟨by omega, by omega⟩ (fun c103 => (by omega)) (fun c103 => ?_)
                refine ge_iconst hC dL_passes_261 ?_
                refine ge_goto hC dL_passes_262 (tgt := 266) (by decide) ?_
                refine ge_istore hC dL_passes_266 (by decide) (lv' := [(8, zz_v 1), (10, zz_v ((V72 1 u) - days)), (0, .ref (a 0)), (2, .ref ad), (4, zz_v days), (5, .ref q1), (6, .ref q2), (9, zz_v (u : Int))]) rfl ?_
                refine ge_iinc hC dL_passes_268 (j := 7) rfl (y := ((u + 1 : Nat) : Int)) (by omega) (by decide) (lv' := [(9, zz_v ((u + 1 : Nat) : Int)), (8, zz_v 1), (10, zz_v ((V72 1 u) - days)), (0, .ref (a 0)), (2, .ref ad), (4, zz_v days), (5, .ref q1), (6, .ref q2)]) rfl ?_
                refine ge_goto hC dL_passes_271 (tgt := 161) (by decide) ?_
                refine ge_sub [3, 4, 5, 6, 7, 1, 0] (lv' := [(0, .ref (a 0)), (2, .ref ad), (4, zz_v days), (5, .ref q1), (6, .ref q2), (8, zz_v 1), (9, zz_v ((u + 1 : Nat) : Int))]) rfl ?_
                refine ge_sup (k' := 14 + 6 * (T 0 9).toNat + 4 * (u + 1)) (by omega) ?_
                exact ih161 (u + 1) (show u + 1 ≤ (T 0 9).toNat by omega) (show (T 0 9).toNat - (u + 1) < (T 0 9).toNat - u by omega)
              · skip
                refine ge_iload hC dL_passes_241 (j := 0) rfl ?_
                refine ge_if_ne hC dL_passes_243 (tgt := 250) (by decide) ⟨by omega, by omega⟩ (fun c104 => ?_) (fun c104 => ?_)
                · skip
                  refine ge_aload hC dL_passes_250 (j := 5) rfl ?_
                  refine ge_iload hC dL_passes_252 (j := 7) rfl ?_
                  refine ge_iald hC hK (q := 2) (j := u) (by decide) rfl rfl (show _ < 16 by omega) dL_passes_254 (fun v105r => ?_)
                  refine ge_top (y := V72 2 u) rfl ?_
                  have v105s : zz_R (V72 2 u) := v105r
                  refine ge_bipush hC dL_passes_255 rfl ?_
                  refine ge_irem hC dL_passes_257 ⟨by omega, by omega⟩ ⟨by omega, by omega⟩ ?_
                  refine ge_icmp_ne hC dL_passes_258 (tgt := 265) (by decide) a99r ⟨by omega, by omega⟩ (fun c106 => (by omega)) (fun c106 => ?_)
                  refine ge_iconst hC dL_passes_261 ?_
                  refine ge_goto hC dL_passes_262 (tgt := 266) (by decide) ?_
                  refine ge_istore hC dL_passes_266 (by decide) (lv' := [(8, zz_v 1), (10, zz_v ((V72 1 u) - days)), (0, .ref (a 0)), (2, .ref ad), (4, zz_v days), (5, .ref q1), (6, .ref q2), (9, zz_v (u : Int))]) rfl ?_
                  refine ge_iinc hC dL_passes_268 (j := 7) rfl (y := ((u + 1 : Nat) : Int)) (by omega) (by decide) (lv' := [(9, zz_v ((u + 1 : Nat) : Int)), (8, zz_v 1), (10, zz_v ((V72 1 u) - days)), (0, .ref (a 0)), (2, .ref ad), (4, zz_v days), (5, .ref q1), (6, .ref q2)]) rfl ?_
                  refine ge_goto hC dL_passes_271 (tgt := 161) (by decide) ?_
                  refine ge_sub [3, 4, 5, 6, 7, 1, 0] (lv' := [(0, .ref (a 0)), (2, .ref ad), (4, zz_v days), (5, .ref q1), (6, .ref q2), (8, zz_v 1), (9, zz_v ((u + 1 : Nat) : Int))]) rfl ?_
                  refine ge_sup (k' := 14 + 6 * (T 0 9).toNat + 4 * (u + 1)) (by omega) ?_
                  exact ih161 (u + 1) (show u + 1 ≤ (T 0 9).toNat by omega) (show (T 0 9).toNat - (u + 1) < (T 0 9).toNat - u by omega)
                · skip
                  refine ge_iconst hC dL_passes_246 ?_
                  refine ge_goto hC dL_passes_247 (tgt := 258) (by decide) ?_
                  refine ge_icmp_ne hC dL_passes_258 (tgt := 265) (by decide) a99r ⟨by decide, by decide⟩ (fun c107 => (by omega)) (fun c107 => ?_)
                  refine ge_iconst hC dL_passes_261 ?_
                  refine ge_goto hC dL_passes_262 (tgt := 266) (by decide) ?_
                  refine ge_istore hC dL_passes_266 (by decide) (lv' := [(8, zz_v 1), (10, zz_v ((V72 1 u) - days)), (0, .ref (a 0)), (2, .ref ad), (4, zz_v days), (5, .ref q1), (6, .ref q2), (9, zz_v (u : Int))]) rfl ?_
                  refine ge_iinc hC dL_passes_268 (j := 7) rfl (y := ((u + 1 : Nat) : Int)) (by omega) (by decide) (lv' := [(9, zz_v ((u + 1 : Nat) : Int)), (8, zz_v 1), (10, zz_v ((V72 1 u) - days)), (0, .ref (a 0)), (2, .ref ad), (4, zz_v days), (5, .ref q1), (6, .ref q2)]) rfl ?_
                  refine ge_goto hC dL_passes_271 (tgt := 161) (by decide) ?_
                  refine ge_sub [3, 4, 5, 6, 7, 1, 0] (lv' := [(0, .ref (a 0)), (2, .ref ad), (4, zz_v days), (5, .ref q1), (6, .ref q2), (8, zz_v 1), (9, zz_v ((u + 1 : Nat) : Int))]) rfl ?_
                  refine ge_sup (k' := 14 + 6 * (T 0 9).toNat + 4 * (u + 1)) (by omega) ?_
                  exact ih161 (u + 1) (show u + 1 ≤ (T 0 9).toNat by omega) (show (T 0 9).toNat - (u + 1) < (T 0 9).toNat - u by omega)
            · skip
              refine ge_iconst hC dL_passes_192 ?_
              refine ge_goto hC dL_passes_193 (tgt := 212) (by decide) ?_
              refine ge_istore hC dL_passes_212 (by decide) (lv' := [(10, zz_v 0), (0, .ref (a 0)), (2, .ref ad), (4, zz_v days), (5, .ref q1), (6, .ref q2), (8, zz_v 1), (9, zz_v (u : Int))]) rfl ?_
              refine ge_aload_n hC dL_passes_214 rfl (j := 1) rfl ?_
              refine ge_iload hC dL_passes_215 (j := 7) rfl ?_
              refine ge_iconst hC dL_passes_217 ?_
              refine ge_ask (As := [zz_v (u : Int), zz_v 2]) (rest := []) hC hF (c_X3_about l hl9 N0 _ Y a T70 (u : Int) 2 ⟨by omega, by omega⟩ ⟨by decide, by decide⟩ ICT70) (by refine ⟨?_, ?_, ?_⟩ <;> first | omega | exact fun z => z) (cwV 2 hts gL_passes_X3_about rfl rfl rfl (by decide +kernel) ⟨by decide, by decide⟩) rfl rfl (Nat.le_of_ble_eq_true rfl) dL_passes_218 ⟨show _ ≤ 240 by omega, show _ ≤ 1440 by omega⟩ (fun _ q108r => ?_)
              obtain ⟨a109, a109e⟩ : ∃ a109 : Int, a109 = zz_ab T70 (u : Int).toNat 2 := ⟨_, rfl⟩
              have a109r : zz_R a109 := by rw [a109e]; exact q108r
              refine ge_top (y := a109) a109e.symm ?_
              clear q108r
              refine ge_iload hC dL_passes_221 (j := 0) rfl ?_
              refine ge_icmp_ne hC dL_passes_223 (tgt := 265) (by decide) a109r ⟨by decide, by decide⟩ (fun c110 => (by omega)) (fun c110 => ?_)
              refine ge_aload_n hC dL_passes_226 rfl (j := 1) rfl ?_
              refine ge_iload hC dL_passes_227 (j := 7) rfl ?_
              refine ge_iconst hC dL_passes_229 ?_
              refine ge_ask (As := [zz_v (u : Int), zz_v 0]) (rest := []) hC hF (c_X3_about l hl9 N0 _ Y a T70 (u : Int) 0 ⟨by omega, by omega⟩ ⟨by decide, by decide⟩ ICT70) (by refine ⟨?_, ?_, ?_⟩ <;> first | omega | exact fun z => z) (cwV 2 hts gL_passes_X3_about rfl rfl rfl (by decide +kernel) ⟨by decide, by decide⟩) rfl rfl (Nat.le_of_ble_eq_true rfl) dL_passes_230 ⟨show _ ≤ 240 by omega, show _ ≤ 1440 by omega⟩ (fun _ q111r => ?_)
              obtain ⟨a112, a112e⟩ : ∃ a112 : Int, a112 = zz_ab T70 (u : Int).toNat 0 := ⟨_, rfl⟩
              have a112r : zz_R a112 := by rw [a112e]; exact q111r
              refine ge_top (y := a112) a112e.symm ?_
              clear q111r
              refine ge_aload hC dL_passes_233 (j := 5) rfl ?_
              refine ge_iload hC dL_passes_235 (j := 7) rfl ?_
              refine ge_iald hC hK (q := 2) (j := u) (by decide) rfl rfl (show _ < 16 by omega) dL_passes_237 (fun v113r => ?_)
              refine ge_top (y := V72 2 u) rfl ?_
              have v113s : zz_R (V72 2 u) := v113r
              refine ge_if_ne hC dL_passes_238 (tgt := 250) (by decide) v113s (fun c114 => ?_) (fun c114 => ?_)
              · skip
                refine ge_aload hC dL_passes_250 (j := 5) rfl ?_
                refine ge_iload hC dL_passes_252 (j := 7) rfl ?_
                refine ge_iald hC hK (q := 2) (j := u) (by decide) rfl rfl (show _ < 16 by omega) dL_passes_254 (fun v115r => ?_)
                refine ge_top (y := V72 2 u) rfl ?_
                have v115s : zz_R (V72 2 u) := v115r
                refine ge_bipush hC dL_passes_255 rfl ?_
                refine ge_irem hC dL_passes_257 ⟨by omega, by omega⟩ ⟨by omega, by omega⟩ ?_
                refine ge_icmp_ne hC dL_passes_258 (tgt := 265) (by decide) a112r ⟨by omega, by omega⟩ (fun c116 => (by omega)) (fun c116 => ?_)
                refine ge_iconst hC dL_passes_261 ?_
                refine ge_goto hC dL_passes_262 (tgt := 266) (by decide) ?_
                refine ge_istore hC dL_passes_266 (by decide) (lv' := [(8, zz_v 1), (10, zz_v 0), (0, .ref (a 0)), (2, .ref ad), (4, zz_v days), (5, .ref q1), (6, .ref q2), (9, zz_v (u : Int))]) rfl ?_
                refine ge_iinc hC dL_passes_268 (j := 7) rfl (y := ((u + 1 : Nat) : Int)) (by omega) (by decide) (lv' := [(9, zz_v ((u + 1 : Nat) : Int)), (8, zz_v 1), (10, zz_v 0), (0, .ref (a 0)), (2, .ref ad), (4, zz_v days), (5, .ref q1), (6, .ref q2)]) rfl ?_
                refine ge_goto hC dL_passes_271 (tgt := 161) (by decide) ?_
                refine ge_sub [3, 4, 5, 6, 7, 1, 0] (lv' := [(0, .ref (a 0)), (2, .ref ad), (4, zz_v days), (5, .ref q1), (6, .ref q2), (8, zz_v 1), (9, zz_v ((u + 1 : Nat) : Int))]) rfl ?_
                refine ge_sup (k' := 14 + 6 * (T 0 9).toNat + 4 * (u + 1)) (by omega) ?_
                exact ih161 (u + 1) (show u + 1 ≤ (T 0 9).toNat by omega) (show (T 0 9).toNat - (u + 1) < (T 0 9).toNat - u by omega)
              · skip
                refine ge_iload hC dL_passes_241 (j := 0) rfl ?_
                refine ge_if_ne hC dL_passes_243 (tgt := 250) (by decide) ⟨by decide, by decide⟩ (fun c117 => (by omega)) (fun c117 => ?_)
                refine ge_iconst hC dL_passes_246 ?_
                refine ge_goto hC dL_passes_247 (tgt := 258) (by decide) ?_
                refine ge_icmp_ne hC dL_passes_258 (tgt := 265) (by decide) a112r ⟨by decide, by decide⟩ (fun c118 => (by omega)) (fun c118 => ?_)
                refine ge_iconst hC dL_passes_261 ?_
                refine ge_goto hC dL_passes_262 (tgt := 266) (by decide) ?_
                refine ge_istore hC dL_passes_266 (by decide) (lv' := [(8, zz_v 1), (10, zz_v 0), (0, .ref (a 0)), (2, .ref ad), (4, zz_v days), (5, .ref q1), (6, .ref q2), (9, zz_v (u : Int))]) rfl ?_
                refine ge_iinc hC dL_passes_268 (j := 7) rfl (y := ((u + 1 : Nat) : Int)) (by omega) (by decide) (lv' := [(9, zz_v ((u + 1 : Nat) : Int)), (8, zz_v 1), (10, zz_v 0), (0, .ref (a 0)), (2, .ref ad), (4, zz_v days), (5, .ref q1), (6, .ref q2)]) rfl ?_
                refine ge_goto hC dL_passes_271 (tgt := 161) (by decide) ?_
                refine ge_sub [3, 4, 5, 6, 7, 1, 0] (lv' := [(0, .ref (a 0)), (2, .ref ad), (4, zz_v days), (5, .ref q1), (6, .ref q2), (8, zz_v 1), (9, zz_v ((u + 1 : Nat) : Int))]) rfl ?_
                refine ge_sup (k' := 14 + 6 * (T 0 9).toNat + 4 * (u + 1)) (by omega) ?_
                exact ih161 (u + 1) (show u + 1 ≤ (T 0 9).toNat by omega) (show (T 0 9).toNat - (u + 1) < (T 0 9).toNat - u by omega)
      · exfalso; first | omega | exact hwF
      · exfalso; first | omega | exact hwF
      · skip
        rw [r69e, hT]
        refine ge_istore hC dL_passes_108 (by decide) (lv' := [(7, zz_v (-2000000003)), (0, .ref (a 0)), (1, .ref (a 77)), (2, .ref ad), (4, zz_v days), (5, .ref q1), (6, .ref q2)]) rfl ?_
        refine ge_iload hC dL_passes_110 (j := 0) rfl ?_
        refine ge_ldc hC (n := -2000000003) k23 dL_passes_112 ?_
        refine ge_icmp_ne hC dL_passes_114 (tgt := 135) (by decide) ⟨by decide, by decide⟩ ⟨by decide, by decide⟩ (fun c119 => (by omega)) (fun c119 => ?_)
        refine ge_aload_n hC dL_passes_117 rfl (j := 3) rfl ?_
        refine ge_iconst hC dL_passes_118 ?_
        refine ge_iald hC hK (q := 0) (j := 3) (by decide) rfl rfl (by decide) dL_passes_119 (fun _ => ?_)
        refine ge_top (y := T 0 10) hVL.2.2.2 ?_
        refine ge_iload hC dL_passes_120 (j := 4) rfl ?_
        refine ge_iadd hC dL_passes_122 ?_
        refine ge_sipush hC dL_passes_123 rfl ?_
        refine ge_icmp_le hC dL_passes_126 (tgt := 133) (by decide) ⟨by omega, by omega⟩ ⟨by decide, by decide⟩ (fun c120 => (by omega)) (fun c120 => ?_)
        refine ge_iconst hC dL_passes_129 ?_
        refine ge_goto hC dL_passes_130 (tgt := 134) (by decide) ?_
        refine ge_forget (nA := [ad] ++ [q1]) ?_
        refine ge_forget (nA := [ad]) ?_
        exact ge_ireturn hC hr rfl hlk dL_passes_134 (show _ ≤ 240 by omega) ⟨rfl, T, L, rfl, zi_wide (Nat.le_add_right _ _) hI, by unfold zi_V; first | omega | (refine ⟨?_, ?_, ?_, ?_⟩ <;> omega)⟩
    · skip
      refine ge_aload hC dL_passes_56 (j := 4) rfl ?_
      refine ge_iload hC dL_passes_58 (j := 6) rfl ?_
      refine ge_aload_n hC dL_passes_60 rfl (j := 0) rfl ?_
      refine ge_iload hC dL_passes_61 (j := 6) rfl ?_
      refine ge_iconst hC dL_passes_63 ?_
      refine ge_ask (As := [zz_v (i : Int), zz_v 2]) (rest := [zz_v (i : Int), .ref q1]) hC hF (c_X3_about l hl9 N0 _ Y a T (i : Int) 2 ⟨by omega, by omega⟩ ⟨by decide, by decide⟩ hIC) (by refine ⟨?_, ?_, ?_⟩ <;> first | omega | exact fun z => z) (cwV 2 hts gL_passes_X3_about rfl rfl rfl (by decide +kernel) ⟨by decide, by decide⟩) rfl rfl (Nat.le_of_ble_eq_true rfl) dL_passes_64 ⟨show _ ≤ 240 by omega, show _ ≤ 1440 by omega⟩ (fun _ q121r => ?_)
      obtain ⟨a122, a122e⟩ : ∃ a122 : Int, a122 = zz_ab T (i : Int).toNat 2 := ⟨_, rfl⟩
      have a122r : zz_R a122 := by rw [a122e]; exact q121r
      refine ge_top (y := a122) a122e.symm ?_
      clear q121r
      have a122q : a122 = T (61 + i) 2 := by rw [a122e]; rfl
      refine ge_iast hC hK (q := 1) (j := i) (by decide) rfl rfl (show _ < 16 by omega) a122r dL_passes_67 ?_
      obtain ⟨V123, hV123⟩ : ∃ V123 : zz_S, V123 = zz_u L 1 i a122 := ⟨_, rfl⟩
      refine ge_eq (U' := (T, T, V123)) (by rw [hV123]) ?_
      have dV123_0 : V123 0 0 = T 0 3 := by rw [hV123, zz_u_ne _ _ (by omega)]; exact hVL.1
      have dV123_1 : V123 0 1 = T 0 7 := by rw [hV123, zz_u_ne _ _ (by omega)]; exact hVL.2.1
      have dV123_2 : V123 0 2 = T 0 9 := by rw [hV123, zz_u_ne _ _ (by omega)]; exact hVL.2.2.1
      have dV123_3 : V123 0 3 = T 0 10 := by rw [hV123, zz_u_ne _ _ (by omega)]; exact hVL.2.2.2
      refine ge_aload hC dL_passes_68 (j := 5) rfl ?_
      refine ge_iload hC dL_passes_70 (j := 6) rfl ?_
      refine ge_aload_n hC dL_passes_72 rfl (j := 0) rfl ?_
      refine ge_iload hC dL_passes_73 (j := 6) rfl ?_
      refine ge_iconst hC dL_passes_75 ?_
      refine ge_ask (As := [zz_v (i : Int), zz_v 0]) (rest := [zz_v (i : Int), .ref q2]) hC hF (c_X3_about l hl9 N0 _ Y a T (i : Int) 0 ⟨by omega, by omega⟩ ⟨by decide, by decide⟩ hIC) (by refine ⟨?_, ?_, ?_⟩ <;> first | omega | exact fun z => z) (cwV 2 hts gL_passes_X3_about rfl rfl rfl (by decide +kernel) ⟨by decide, by decide⟩) rfl rfl (Nat.le_of_ble_eq_true rfl) dL_passes_76 ⟨show _ ≤ 240 by omega, show _ ≤ 1440 by omega⟩ (fun _ q124r => ?_)
      obtain ⟨a125, a125e⟩ : ∃ a125 : Int, a125 = zz_ab T (i : Int).toNat 0 := ⟨_, rfl⟩
      have a125r : zz_R a125 := by rw [a125e]; exact q124r
      refine ge_top (y := a125) a125e.symm ?_
      clear q124r
      have a125q : a125 = T (61 + i) 1 := by rw [a125e]; rfl
      refine ge_bipush hC dL_passes_79 rfl ?_
      refine ge_aload_n hC dL_passes_81 rfl (j := 0) rfl ?_
      refine ge_iload hC dL_passes_82 (j := 6) rfl ?_
      refine ge_iconst hC dL_passes_84 ?_
      refine ge_ask (As := [zz_v (i : Int), zz_v 4]) (rest := [zz_v 10, zz_v a125, zz_v (i : Int), .ref q2]) hC hF (c_X3_about l hl9 N0 _ Y a T (i : Int) 4 ⟨by omega, by omega⟩ ⟨by decide, by decide⟩ hIC) (by refine ⟨?_, ?_, ?_⟩ <;> first | omega | exact fun z => z) (cwV 2 hts gL_passes_X3_about rfl rfl rfl (by decide +kernel) ⟨by decide, by decide⟩) rfl rfl (Nat.le_of_ble_eq_true rfl) dL_passes_85 ⟨show _ ≤ 240 by omega, show _ ≤ 1440 by omega⟩ (fun _ q126r => ?_)
      obtain ⟨a127, a127e⟩ : ∃ a127 : Int, a127 = zz_ab T (i : Int).toNat 4 := ⟨_, rfl⟩
      have a127r : zz_R a127 := by rw [a127e]; exact q126r
      refine ge_top (y := a127) a127e.symm ?_
      clear q126r
      have a127q : a127 = if T (61 + i) 4 = 1 then 1 else 0 := by rw [a127e]; rfl
      refine ge_imul hC dL_passes_88 ?_
      refine ge_iadd hC dL_passes_89 ?_
      refine ge_iast hC hK (q := 2) (j := i) (by decide) rfl rfl (show _ < 16 by omega) ⟨by omega, by omega⟩ dL_passes_90 ?_
      obtain ⟨V128, hV128⟩ : ∃ V128 : zz_S, V128 = zz_u V123 2 i (a125 + (10 * a127)) := ⟨_, rfl⟩
      refine ge_eq (U' := (T, T, V128)) (by rw [hV128]) ?_
      have dV128_0 : V128 0 0 = T 0 3 := by rw [hV128, zz_u_ne _ _ (by omega)]; exact dV123_0
      have dV128_1 : V128 0 1 = T 0 7 := by rw [hV128, zz_u_ne _ _ (by omega)]; exact dV123_1
      have dV128_2 : V128 0 2 = T 0 9 := by rw [hV128, zz_u_ne _ _ (by omega)]; exact dV123_2
      have dV128_3 : V128 0 3 = T 0 10 := by rw [hV128, zz_u_ne _ _ (by omega)]; exact dV123_3
      refine ge_iinc hC dL_passes_91 (j := 6) rfl (y := ((i + 1 : Nat) : Int)) (by omega) (by decide) (lv' := [(7, zz_v ((i + 1 : Nat) : Int)), (0, .ref (a 0)), (1, .ref (a 77)), (2, .ref ad), (4, zz_v days), (5, .ref q1), (6, .ref q2)]) rfl ?_
      refine ge_goto hC dL_passes_94 (tgt := 48) (by decide) ?_
      refine ge_sub [1, 2, 3, 4, 5, 6, 0] (lv' := [(0, .ref (a 0)), (1, .ref (a 77)), (2, .ref ad), (4, zz_v days), (5, .ref q1), (6, .ref q2), (7, zz_v ((i + 1 : Nat) : Int))]) rfl ?_
      refine ge_sup (k' := 6 + 6 * (i + 1)) (by omega) ?_
      refine ih48 (i + 1, V128) ⟨by omega, ⟨dV128_0, dV128_1, dV128_2, dV128_3⟩, fun j hj => ?_⟩ (show (T 0 9).toNat - (i + 1) < (T 0 9).toNat - i by omega)
      by_cases e9 : j = i
      · rw [e9, hV128, zz_u_same, zz_u_ne _ _ (by omega), hV123, zz_u_same]
        exact ⟨a122q, by rw [a125q, a127q]⟩
      · rw [hV128, zz_u_ne _ _ (by omega), zz_u_ne _ _ (by omega), hV123, zz_u_ne _ _ (by omega), zz_u_ne _ _ (by omega)]
        exact hL j (by omega)
