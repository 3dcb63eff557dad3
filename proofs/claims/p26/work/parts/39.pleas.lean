abbrev rm_L_pleas : Room := { frames := 11, cells := 80, slots := 480, locals := 228 }
set_option maxHeartbeats 4000000 in
set_option maxRecDepth 100000 in
theorem c_L_pleas (l : Launch) (hl9 : l.stackTraces = false) (N0 : Nat) (G : zz_G) (Y : zz_Y) (a : Nat → Nat) (nA : List Nat) (T V : zz_S) (n : Nat) (x z : Int) (hx : zz_R x) (hz : zz_R z) (hnA : 0 < nA.length) (hn : n + 2 ≤ 512) (hI : zi_ T n) (hV : zi_V T V) : Cy_ l yL_pleas wsL_pleas rm_L_pleas 80 [.ref (a 0), .ref (a 77), .ref (nA.getD 0 0), zz_v x, zz_v z] N0 G Y a nA (T, T, V) (zl_post (n + 2)) := by
  refine Cy_.of (cc := cL_pleas) (maxL := 10) (ret := (some .boolean)) (by decide) rfl (Nat.le_of_ble_eq_true rfl) ?_
  intro p e s m args below meth c hC hts hr hlk hF
  have hK := hF.2.1
  have k17 : (Cond.constant RL 17 (Int32.ofInt (-2000000001))).before args s = true := hts _ (by decide +kernel)
  have k23 : (Cond.constant RL 23 (Int32.ofInt (-2000000003))).before args s = true := hts _ (by decide +kernel)
  have hIC : zz_IC T := zi_IC (by omega) hI
  obtain ⟨hA, hB, hCC, hD, hE, hFF, hG, hH⟩ := id hI
  have hd0 := hB.1
  have hd1 := hFF.1
  have hd2 := hH.1
  have hd3 : 0 ≤ T 0 10 ∧ T 0 10 ≤ 5000 := hCC
  have hdc := hD.1
  have hlc := hE.1
  obtain ⟨hV0, hV1, hV2, hV3⟩ := id hV
  refine ge_lveq (lv' := [(0, .ref (a 0)), (1, .ref (a 77)), (2, .ref (nA.getD 0 0)), (3, zz_v x), (4, zz_v z)]) rfl ?_
  refine ge_aload_n hC dL_pleas_0 rfl (j := 2) rfl ?_
  refine ge_iconst hC dL_pleas_1 ?_
  refine ge_iald hC hK (q := 0) (j := 1) hnA rfl rfl (by decide) dL_pleas_2 (fun _ => ?_)
  refine ge_top (y := T 0 7) hV.2.1 ?_
  refine ge_if_ne hC dL_pleas_3 (tgt := 26) (by decide) ⟨by omega, by omega⟩ (fun c1 => ?_) (fun c1 => ?_)
  · skip
    refine ge_iload hC dL_pleas_26 (j := 4) rfl ?_
    refine ge_iconst hC dL_pleas_28 ?_
    refine ge_some (x := z) (n := 3) (rest := []) hC hF ⟨by omega, by omega⟩ (va_cwS 2 hts gL_pleas_L_some rfl rfl rfl (by decide +kernel) ⟨by decide, by decide⟩) rfl (Nat.le_of_ble_eq_true rfl) dL_pleas_29 ⟨Nat.le_of_ble_eq_true rfl, Nat.le_of_ble_eq_true rfl⟩ (fun s2 s2a s2b => ?_)
    refine ge_istore hC dL_pleas_32 (by decide) (lv' := [(5, zz_v s2), (0, .ref (a 0)), (1, .ref (a 77)), (2, .ref (nA.getD 0 0)), (3, zz_v x), (4, zz_v z)]) rfl ?_
    refine ge_iload hC dL_pleas_34 (j := 5) rfl ?_
    refine ge_iconst hC dL_pleas_36 ?_
    refine ge_ishrX hC dL_pleas_37 (fun z3 z3r => ?_)
    obtain ⟨z3a, z3b⟩ := id z3r
    refine ge_aload_n hC dL_pleas_38 rfl (j := 3) rfl ?_
    refine ge_iconst hC dL_pleas_39 ?_
    refine ge_iald hC hK (q := 0) (j := 1) hnA rfl rfl (by decide) dL_pleas_40 (fun _ => ?_)
    refine ge_top (y := T 0 7) hV.2.1 ?_
    refine ge_some (x := z3) (n := T 0 7) (rest := []) hC hF ⟨by omega, by omega⟩ (va_cwS 2 hts gL_pleas_L_some rfl rfl rfl (by decide +kernel) ⟨by decide, by decide⟩) rfl (Nat.le_of_ble_eq_true rfl) dL_pleas_41 ⟨Nat.le_of_ble_eq_true rfl, Nat.le_of_ble_eq_true rfl⟩ (fun s4 s4a s4b => ?_)
    refine ge_istore hC dL_pleas_44 (by decide) (lv' := [(6, zz_v s4), (5, zz_v s2), (0, .ref (a 0)), (1, .ref (a 77)), (2, .ref (nA.getD 0 0)), (3, zz_v x), (4, zz_v z)]) rfl ?_
    refine ge_iload_n hC dL_pleas_46 rfl (j := 5) rfl ?_
    refine ge_iconst hC dL_pleas_47 ?_
    refine ge_some (x := x) (n := 5) (rest := []) hC hF ⟨by omega, by omega⟩ (va_cwS 2 hts gL_pleas_L_some rfl rfl rfl (by decide +kernel) ⟨by decide, by decide⟩) rfl (Nat.le_of_ble_eq_true rfl) dL_pleas_48 ⟨Nat.le_of_ble_eq_true rfl, Nat.le_of_ble_eq_true rfl⟩ (fun s5 s5a s5b => ?_)
    refine ge_iconst hC dL_pleas_51 ?_
    refine ge_icmp_ge hC dL_pleas_52 (tgt := 120) (by decide) ⟨by omega, by omega⟩ ⟨by decide, by decide⟩ (fun c6 => ?_) (fun c6 => ?_)
    · skip
      refine ge_aload_n hC dL_pleas_120 rfl (j := 2) rfl ?_
      refine ge_iload hC dL_pleas_121 (j := 1) rfl ?_
      refine ge_iload hC dL_pleas_123 (j := 0) rfl ?_
      refine ge_ask (As := [zz_v s2, zz_v s4]) (rest := []) hC hF (c_X3_bar l hl9 N0 _ Y a T s2 s4 ⟨by omega, by omega⟩ ⟨by omega, by omega⟩ hIC) (by refine ⟨?_, ?_, ?_⟩ <;> first | omega | exact fun z => z) (cwV 2 hts gL_pleas_X3_bar rfl rfl rfl (by decide +kernel) ⟨by decide, by decide⟩) rfl rfl (Nat.le_of_ble_eq_true rfl) dL_pleas_125 ⟨Nat.le_of_ble_eq_true rfl, Nat.le_of_ble_eq_true rfl⟩ (fun _ q7r => ?_)
      obtain ⟨a8, a8e⟩ : ∃ a8 : Int, a8 = zz_ba T s4.toNat s2.toNat (T 0 10) := ⟨_, rfl⟩
      have a8r : zz_R a8 := by rw [a8e]; exact q7r
      refine ge_top (y := a8) a8e.symm ?_
      clear q7r
      have a8q := zi_ba_rng T s4.toNat s2.toNat (T 0 10)
      rw [← a8e] at a8q
      refine ge_istore hC dL_pleas_128 (by decide) (lv' := [(7, zz_v a8), (6, zz_v s4), (5, zz_v s2), (0, .ref (a 0)), (1, .ref (a 77)), (2, .ref (nA.getD 0 0)), (3, zz_v x), (4, zz_v z)]) rfl ?_
      refine ge_aload_n hC dL_pleas_130 rfl (j := 3) rfl ?_
      refine ge_aload_n hC dL_pleas_131 rfl (j := 4) rfl ?_
      refine ge_bipush hC dL_pleas_132 rfl ?_
      refine ge_iload hC dL_pleas_134 (j := 2) rfl ?_
      refine ge_iload hC dL_pleas_136 (j := 1) rfl ?_
      refine ge_iconst hC dL_pleas_138 ?_
      refine ge_both (what := 10) (x := s2) (y := s4) (w := 0) (rest := []) hl9 hC hF (fun G' a' => (c_L_does_complain l hl9 N0 G' Y a' T 0 s2 s4 ⟨by omega, by omega⟩ ⟨by omega, by omega⟩ hIC)) (by refine ⟨fun z9 => ⟨?_, ?_, ?_⟩, fun z9 => ⟨?_, ?_⟩, fun z9 => ?_⟩ <;> intro z8 <;> first | exact z8.elim | exact z9.elim | omega) (va_cwS 6 hts gL_pleas_L_both rfl rfl rfl (by decide +kernel) ⟨by decide, by decide⟩) rfl (Nat.le_of_ble_eq_true rfl) dL_pleas_139 ⟨Nat.le_of_ble_eq_true rfl, Nat.le_of_ble_eq_true rfl⟩ (fun r9 T10 r9r hw => ?_)
      rcases hw with ⟨r9e, hwF, hT⟩ | ⟨r9e, hwF, hT⟩ | ⟨r9e, hwF, hT⟩ | ⟨r9e, hwF, hT⟩
      · skip
        have hT1 : T10 = zz_cS T s2 s4 := hT
        obtain ⟨m1, m2, m3, m4, ⟨m5a, m5b, m5d⟩, m6, m7, m8, m9, m10⟩ := zk_complain (x := s2) (y := s4) hI ⟨by omega, by omega⟩ ⟨by omega, by omega⟩ hwF.2.2.2
        have r9q : zk_cn T s4 = r9 := r9e.symm
        rw [← hT1, r9q] at m2 m3 m4 m6 m7 m8 m10
        rw [← hT1] at m1 m5a m5b m5d m9
        have ICT10 : zz_IC T10 := zi_IC (by omega) m1
        have hm1 := m1.2.2.2.2.2.2.2.1
        refine ge_istore hC dL_pleas_142 (by decide) (lv' := [(8, zz_v r9), (7, zz_v a8), (6, zz_v s4), (5, zz_v s2), (0, .ref (a 0)), (1, .ref (a 77)), (2, .ref (nA.getD 0 0)), (3, zz_v x), (4, zz_v z)]) rfl ?_
        refine ge_iload hC dL_pleas_144 (j := 0) rfl ?_
        refine ge_ldc hC (n := -2000000003) k23 dL_pleas_146 ?_
        refine ge_icmp_ne hC dL_pleas_148 (tgt := 170) (by decide) r9r ⟨by decide, by decide⟩ (fun c11 => ?_) (fun c11 => ?_)
        · skip
          refine ge_iload hC dL_pleas_170 (j := 0) rfl ?_
          refine ge_aload_n hC dL_pleas_172 rfl (j := 6) rfl ?_
          refine ge_iconst hC dL_pleas_173 ?_
          refine ge_iald hC hK (q := 0) (j := 2) hnA rfl rfl (by decide) dL_pleas_174 (fun _ => ?_)
          refine ge_top (y := T 0 9) hV.2.2.1 ?_
          refine ge_icmp_ne hC dL_pleas_175 (tgt := 182) (by decide) r9r ⟨by omega, by omega⟩ (fun c12 => ?_) (fun c12 => ?_)
          · skip
            refine ge_iconst hC dL_pleas_182 ?_
            refine ge_istore hC dL_pleas_183 (by decide) (lv' := [(9, zz_v 0), (8, zz_v r9), (7, zz_v a8), (6, zz_v s4), (5, zz_v s2), (0, .ref (a 0)), (1, .ref (a 77)), (2, .ref (nA.getD 0 0)), (3, zz_v x), (4, zz_v z)]) rfl ?_
            refine ge_aload_n hC dL_pleas_185 rfl (j := 7) rfl ?_
            refine ge_iconst hC dL_pleas_186 ?_
            refine ge_dup2 hC dL_pleas_187 rfl rfl ?_
            refine ge_iald hC hK (q := 0) (j := 2) hnA rfl rfl (by decide) dL_pleas_188 (fun _ => ?_)
            refine ge_top (y := T 0 9) hV.2.2.1 ?_
            refine ge_iload hC dL_pleas_189 (j := 0) rfl ?_
            refine ge_if_eq hC dL_pleas_191 (tgt := 198) (by decide) ⟨by decide, by decide⟩ (fun c13 => ?_) (fun c13 => (by omega))
            refine ge_iconst hC dL_pleas_198 ?_
            refine ge_iadd hC dL_pleas_199 ?_
            refine ge_iast hC hK (q := 0) (j := 2) hnA rfl rfl (by decide) ⟨by omega, by omega⟩ dL_pleas_200 ?_
            obtain ⟨V14, hV14⟩ : ∃ V14 : zz_S, V14 = zz_u V 0 2 ((T 0 9) + 0) := ⟨_, rfl⟩
            refine ge_eq (U' := (T10, T10, V14)) (by rw [hV14]) ?_
            have dV14_0 : V14 0 0 = T 0 3 := by rw [hV14, zz_u_ne _ _ (by omega)]; exact hV.1
            have dV14_1 : V14 0 1 = T 0 7 := by rw [hV14, zz_u_ne _ _ (by omega)]; exact hV.2.1
            have dV14_2 : V14 0 2 = (T 0 9) + 0 := by rw [hV14, zz_u_same]
            have dV14_3 : V14 0 3 = T 0 10 := by rw [hV14, zz_u_ne _ _ (by omega)]; exact hV.2.2.2
            clear hV14
            refine ge_iload hC dL_pleas_201 (j := 2) rfl ?_
            refine ge_if_ne hC dL_pleas_203 (tgt := 319) (by decide) a8r (fun c15 => (by omega)) (fun c15 => ?_)
            refine ge_iload hC dL_pleas_206 (j := 1) rfl ?_
            refine ge_aload_n hC dL_pleas_208 rfl (j := 7) rfl ?_
            refine ge_iconst hC dL_pleas_209 ?_
            refine ge_iald hC hK (q := 0) (j := 2) hnA rfl rfl (by decide) dL_pleas_210 (fun _ => ?_)
            refine ge_top (y := (T 0 9) + 0) dV14_2 ?_
            refine ge_icmp_ge hC dL_pleas_211 (tgt := 319) (by decide) r9r ⟨by omega, by omega⟩ (fun c16 => (by omega)) (fun c16 => ?_)
            refine ge_aload_n hC dL_pleas_214 rfl (j := 5) rfl ?_
            refine ge_iload hC dL_pleas_215 (j := 1) rfl ?_
            refine ge_iconst hC dL_pleas_217 ?_
            refine ge_ask (As := [zz_v r9, zz_v 1]) (rest := []) hC hF (c_X3_about l hl9 N0 _ Y a T10 r9 1 r9r ⟨by decide, by decide⟩ ICT10) (by refine ⟨?_, ?_, ?_⟩ <;> first | omega | exact fun z => z) (cwV 2 hts gL_pleas_X3_about rfl rfl rfl (by decide +kernel) ⟨by decide, by decide⟩) rfl rfl (Nat.le_of_ble_eq_true rfl) dL_pleas_218 ⟨Nat.le_of_ble_eq_true rfl, Nat.le_of_ble_eq_true rfl⟩ (fun _ q17r => ?_)
            obtain ⟨a18, a18e⟩ : ∃ a18 : Int, a18 = zz_ab T10 r9.toNat 1 := ⟨_, rfl⟩
            have a18r : zz_R a18 := by rw [a18e]; exact q17r
            refine ge_top (y := a18) a18e.symm ?_
            clear q17r
            have a18q : a18 = s4 := by rw [a18e]; exact m6
            refine ge_iload hC dL_pleas_221 (j := 3) rfl ?_
            refine ge_icmp_ne hC dL_pleas_223 (tgt := 319) (by decide) a18r ⟨by omega, by omega⟩ (fun c19 => (by omega)) (fun c19 => ?_)
            refine ge_aload_n hC dL_pleas_226 rfl (j := 5) rfl ?_
            refine ge_iload hC dL_pleas_227 (j := 1) rfl ?_
            refine ge_iconst hC dL_pleas_229 ?_
            refine ge_ask (As := [zz_v r9, zz_v 0]) (rest := []) hC hF (c_X3_about l hl9 N0 _ Y a T10 r9 0 r9r ⟨by decide, by decide⟩ ICT10) (by refine ⟨?_, ?_, ?_⟩ <;> first | omega | exact fun z => z) (cwV 2 hts gL_pleas_X3_about rfl rfl rfl (by decide +kernel) ⟨by decide, by decide⟩) rfl rfl (Nat.le_of_ble_eq_true rfl) dL_pleas_230 ⟨Nat.le_of_ble_eq_true rfl, Nat.le_of_ble_eq_true rfl⟩ (fun _ q20r => ?_)
            obtain ⟨a21, a21e⟩ : ∃ a21 : Int, a21 = zz_ab T10 r9.toNat 0 := ⟨_, rfl⟩
            have a21r : zz_R a21 := by rw [a21e]; exact q20r
            refine ge_top (y := a21) a21e.symm ?_
            clear q20r
            refine ge_iconst hC dL_pleas_233 ?_
            refine ge_icmp_eq hC dL_pleas_234 (tgt := 319) (by decide) a21r ⟨by decide, by decide⟩ (fun c22 => (by omega)) (fun c22 => ?_)
            refine ge_aload_n hC dL_pleas_237 rfl (j := 5) rfl ?_
            refine ge_iload hC dL_pleas_238 (j := 1) rfl ?_
            refine ge_iconst hC dL_pleas_240 ?_
            refine ge_ask (As := [zz_v r9, zz_v 3]) (rest := []) hC hF (c_X3_about l hl9 N0 _ Y a T10 r9 3 r9r ⟨by decide, by decide⟩ ICT10) (by refine ⟨?_, ?_, ?_⟩ <;> first | omega | exact fun z => z) (cwV 2 hts gL_pleas_X3_about rfl rfl rfl (by decide +kernel) ⟨by decide, by decide⟩) rfl rfl (Nat.le_of_ble_eq_true rfl) dL_pleas_241 ⟨Nat.le_of_ble_eq_true rfl, Nat.le_of_ble_eq_true rfl⟩ (fun _ q23r => ?_)
            obtain ⟨a24, a24e⟩ : ∃ a24 : Int, a24 = zz_ab T10 r9.toNat 3 := ⟨_, rfl⟩
            have a24r : zz_R a24 := by rw [a24e]; exact q23r
            refine ge_top (y := a24) a24e.symm ?_
            clear q23r
            have a24q : 1 ≤ a24 ∧ a24 ≤ 3 := by rw [a24e]; exact m8
            refine ge_iconst hC dL_pleas_244 ?_
            refine ge_icmp_lt hC dL_pleas_245 (tgt := 319) (by decide) a24r ⟨by decide, by decide⟩ (fun c25 => (by omega)) (fun c25 => ?_)
            refine ge_aload_n hC dL_pleas_248 rfl (j := 5) rfl ?_
            refine ge_iload hC dL_pleas_249 (j := 1) rfl ?_
            refine ge_iconst hC dL_pleas_251 ?_
            refine ge_ask (As := [zz_v r9, zz_v 3]) (rest := []) hC hF (c_X3_about l hl9 N0 _ Y a T10 r9 3 r9r ⟨by decide, by decide⟩ ICT10) (by refine ⟨?_, ?_, ?_⟩ <;> first | omega | exact fun z => z) (cwV 2 hts gL_pleas_X3_about rfl rfl rfl (by decide +kernel) ⟨by decide, by decide⟩) rfl rfl (Nat.le_of_ble_eq_true rfl) dL_pleas_252 ⟨Nat.le_of_ble_eq_true rfl, Nat.le_of_ble_eq_true rfl⟩ (fun _ q26r => ?_)
            obtain ⟨a27, a27e⟩ : ∃ a27 : Int, a27 = zz_ab T10 r9.toNat 3 := ⟨_, rfl⟩
            have a27r : zz_R a27 := by rw [a27e]; exact q26r
            refine ge_top (y := a27) a27e.symm ?_
            clear q26r
            have a27q : 1 ≤ a27 ∧ a27 ≤ 3 := by rw [a27e]; exact m8
            refine ge_iconst hC dL_pleas_255 ?_
            refine ge_icmp_gt hC dL_pleas_256 (tgt := 319) (by decide) a27r ⟨by decide, by decide⟩ (fun c28 => (by omega)) (fun c28 => ?_)
            refine ge_iload hC dL_pleas_259 (j := 0) rfl ?_
            refine ge_if_eq hC dL_pleas_261 (tgt := 298) (by decide) ⟨by decide, by decide⟩ (fun c29 => ?_) (fun c29 => (by omega))
            refine ge_aload_n hC dL_pleas_298 rfl (j := 5) rfl ?_
            refine ge_aload_n hC dL_pleas_299 rfl (j := 6) rfl ?_
            refine ge_bipush hC dL_pleas_300 rfl ?_
            refine ge_iload hC dL_pleas_302 (j := 4) rfl ?_
            refine ge_iload hC dL_pleas_304 (j := 3) rfl ?_
            refine ge_iconst hC dL_pleas_306 ?_
            have m9q : zz_ba T10 s4.toNat s2.toNat (T10 0 10) = 0 := by rw [m5d, m9, ← a8e]; omega
            refine ge_both (what := 10) (x := s2) (y := s4) (w := 0) (rest := []) hl9 hC hF (fun G' a' => (c_L_does_complain l hl9 N0 G' Y a' T10 0 s2 s4 ⟨by omega, by omega⟩ ⟨by omega, by omega⟩ ICT10)) (by refine ⟨fun z9 => ⟨?_, ?_, ?_⟩, fun z9 => ⟨?_, ?_⟩, fun z9 => ?_⟩ <;> intro z8 <;> first | exact z8.elim | exact z9.elim | omega) (va_cwS 6 hts gL_pleas_L_both rfl rfl rfl (by decide +kernel) ⟨by decide, by decide⟩) rfl (Nat.le_of_ble_eq_true rfl) dL_pleas_307 ⟨Nat.le_of_ble_eq_true rfl, Nat.le_of_ble_eq_true rfl⟩ (fun r30 T31 r30r hw => ?_)
            rcases hw with ⟨r30e, hwF, hT⟩ | ⟨r30e, hwF, hT⟩ | ⟨r30e, hwF, hT⟩ | ⟨r30e, hwF, hT⟩
            · skip
              have r30q : r30 = r9 := by rw [r30e, if_neg (by omega)]; exact m10
              have hT2 : T31 = zz_cS T10 s2 s4 := hT
              obtain ⟨u1, u0⟩ := zk_again (k := r9.toNat) (x := s2) (y := s4) m1 ⟨by omega, by omega⟩ (by omega) (by rw [m10]; omega)
              rw [← hT2] at u1 u0
              have ua : T31 0 3 = T10 0 3 := by rw [u0]
              have ub : T31 0 7 = T10 0 7 := by rw [u0]
              have uc : T31 0 9 = T10 0 9 := by rw [u0]
              have ud : T31 0 10 = T10 0 10 := by rw [u0]
              have ICT31 : zz_IC T31 := zi_IC (by omega) u1
              refine ge_iload hC dL_pleas_310 (j := 1) rfl ?_
              refine ge_icmp_ne hC dL_pleas_312 (tgt := 319) (by decide) r30r r9r (fun c32 => (by omega)) (fun c32 => ?_)
              refine ge_iconst hC dL_pleas_315 ?_
              refine ge_goto hC dL_pleas_316 (tgt := 320) (by decide) ?_
              exact ge_ireturn hC hr rfl hlk dL_pleas_320 (Nat.le_of_ble_eq_true rfl) ⟨rfl, T31, V14, rfl, zi_wide (Nat.le_add_right _ _) u1, by unfold zi_V; first | omega | (refine ⟨?_, ?_, ?_, ?_⟩ <;> omega)⟩
            · exfalso; first | omega | exact hwF
            · exfalso; first | omega | exact hwF
            · exfalso; first | omega | exact hwF
          · skip
            refine ge_iconst hC dL_pleas_178 ?_
            refine ge_goto hC dL_pleas_179 (tgt := 183) (by decide) ?_
            refine ge_istore hC dL_pleas_183 (by decide) (lv' := [(9, zz_v 1), (8, zz_v r9), (7, zz_v a8), (6, zz_v s4), (5, zz_v s2), (0, .ref (a 0)), (1, .ref (a 77)), (2, .ref (nA.getD 0 0)), (3, zz_v x), (4, zz_v z)]) rfl ?_
            refine ge_aload_n hC dL_pleas_185 rfl (j := 7) rfl ?_
            refine ge_iconst hC dL_pleas_186 ?_
            refine ge_dup2 hC dL_pleas_187 rfl rfl ?_
            refine ge_iald hC hK (q := 0) (j := 2) hnA rfl rfl (by decide) dL_pleas_188 (fun _ => ?_)
            refine ge_top (y := T 0 9) hV.2.2.1 ?_
            refine ge_iload hC dL_pleas_189 (j := 0) rfl ?_
            refine ge_if_eq hC dL_pleas_191 (tgt := 198) (by decide) ⟨by decide, by decide⟩ (fun c33 => (by omega)) (fun c33 => ?_)
            refine ge_iconst hC dL_pleas_194 ?_
            refine ge_goto hC dL_pleas_195 (tgt := 199) (by decide) ?_
            refine ge_iadd hC dL_pleas_199 ?_
            refine ge_iast hC hK (q := 0) (j := 2) hnA rfl rfl (by decide) ⟨by omega, by omega⟩ dL_pleas_200 ?_
            obtain ⟨V34, hV34⟩ : ∃ V34 : zz_S, V34 = zz_u V 0 2 ((T 0 9) + 1) := ⟨_, rfl⟩
            refine ge_eq (U' := (T10, T10, V34)) (by rw [hV34]) ?_
            have dV34_0 : V34 0 0 = T 0 3 := by rw [hV34, zz_u_ne _ _ (by omega)]; exact hV.1
            have dV34_1 : V34 0 1 = T 0 7 := by rw [hV34, zz_u_ne _ _ (by omega)]; exact hV.2.1
            have dV34_2 : V34 0 2 = (T 0 9) + 1 := by rw [hV34, zz_u_same]
            have dV34_3 : V34 0 3 = T 0 10 := by rw [hV34, zz_u_ne _ _ (by omega)]; exact hV.2.2.2
            clear hV34
            refine ge_iload hC dL_pleas_201 (j := 2) rfl ?_
            refine ge_if_ne hC dL_pleas_203 (tgt := 319) (by decide) a8r (fun c35 => (by omega)) (fun c35 => ?_)
            refine ge_iload hC dL_pleas_206 (j := 1) rfl ?_
            refine ge_aload_n hC dL_pleas_208 rfl (j := 7) rfl ?_
            refine ge_iconst hC dL_pleas_209 ?_
            refine ge_iald hC hK (q := 0) (j := 2) hnA rfl rfl (by decide) dL_pleas_210 (fun _ => ?_)
            refine ge_top (y := (T 0 9) + 1) dV34_2 ?_
            refine ge_icmp_ge hC dL_pleas_211 (tgt := 319) (by decide) r9r ⟨by omega, by omega⟩ (fun c36 => (by omega)) (fun c36 => ?_)
            refine ge_aload_n hC dL_pleas_214 rfl (j := 5) rfl ?_
            refine ge_iload hC dL_pleas_215 (j := 1) rfl ?_
            refine ge_iconst hC dL_pleas_217 ?_
            refine ge_ask (As := [zz_v r9, zz_v 1]) (rest := []) hC hF (c_X3_about l hl9 N0 _ Y a T10 r9 1 r9r ⟨by decide, by decide⟩ ICT10) (by refine ⟨?_, ?_, ?_⟩ <;> first | omega | exact fun z => z) (cwV 2 hts gL_pleas_X3_about rfl rfl rfl (by decide +kernel) ⟨by decide, by decide⟩) rfl rfl (Nat.le_of_ble_eq_true rfl) dL_pleas_218 ⟨Nat.le_of_ble_eq_true rfl, Nat.le_of_ble_eq_true rfl⟩ (fun _ q37r => ?_)
            obtain ⟨a38, a38e⟩ : ∃ a38 : Int, a38 = zz_ab T10 r9.toNat 1 := ⟨_, rfl⟩
            have a38r : zz_R a38 := by rw [a38e]; exact q37r
            refine ge_top (y := a38) a38e.symm ?_
            clear q37r
            have a38q : a38 = s4 := by rw [a38e]; exact m6
            refine ge_iload hC dL_pleas_221 (j := 3) rfl ?_
            refine ge_icmp_ne hC dL_pleas_223 (tgt := 319) (by decide) a38r ⟨by omega, by omega⟩ (fun c39 => (by omega)) (fun c39 => ?_)
            refine ge_aload_n hC dL_pleas_226 rfl (j := 5) rfl ?_
            refine ge_iload hC dL_pleas_227 (j := 1) rfl ?_
            refine ge_iconst hC dL_pleas_229 ?_
            refine ge_ask (As := [zz_v r9, zz_v 0]) (rest := []) hC hF (c_X3_about l hl9 N0 _ Y a T10 r9 0 r9r ⟨by decide, by decide⟩ ICT10) (by refine ⟨?_, ?_, ?_⟩ <;> first | omega | exact fun z => z) (cwV 2 hts gL_pleas_X3_about rfl rfl rfl (by decide +kernel) ⟨by decide, by decide⟩) rfl rfl (Nat.le_of_ble_eq_true rfl) dL_pleas_230 ⟨Nat.le_of_ble_eq_true rfl, Nat.le_of_ble_eq_true rfl⟩ (fun _ q40r => ?_)
            obtain ⟨a41, a41e⟩ : ∃ a41 : Int, a41 = zz_ab T10 r9.toNat 0 := ⟨_, rfl⟩
            have a41r : zz_R a41 := by rw [a41e]; exact q40r
            refine ge_top (y := a41) a41e.symm ?_
            clear q40r
            refine ge_iconst hC dL_pleas_233 ?_
            refine ge_icmp_eq hC dL_pleas_234 (tgt := 319) (by decide) a41r ⟨by decide, by decide⟩ (fun c42 => (by omega)) (fun c42 => ?_)
            refine ge_aload_n hC dL_pleas_237 rfl (j := 5) rfl ?_
            refine ge_iload hC dL_pleas_238 (j := 1) rfl ?_
            refine ge_iconst hC dL_pleas_240 ?_
            refine ge_ask (As := [zz_v r9, zz_v 3]) (rest := []) hC hF (c_X3_about l hl9 N0 _ Y a T10 r9 3 r9r ⟨by decide, by decide⟩ ICT10) (by refine ⟨?_, ?_, ?_⟩ <;> first | omega | exact fun z => z) (cwV 2 hts gL_pleas_X3_about rfl rfl rfl (by decide +kernel) ⟨by decide, by decide⟩) rfl rfl (Nat.le_of_ble_eq_true rfl) dL_pleas_241 ⟨Nat.le_of_ble_eq_true rfl, Nat.le_of_ble_eq_true rfl⟩ (fun _ q43r => ?_)
            obtain ⟨a44, a44e⟩ : ∃ a44 : Int, a44 = zz_ab T10 r9.toNat 3 := ⟨_, rfl⟩
            have a44r : zz_R a44 := by rw [a44e]; exact q43r
            refine ge_top (y := a44) a44e.symm ?_
            clear q43r
            have a44q : 1 ≤ a44 ∧ a44 ≤ 3 := by rw [a44e]; exact m8
            refine ge_iconst hC dL_pleas_244 ?_
            refine ge_icmp_lt hC dL_pleas_245 (tgt := 319) (by decide) a44r ⟨by decide, by decide⟩ (fun c45 => (by omega)) (fun c45 => ?_)
            refine ge_aload_n hC dL_pleas_248 rfl (j := 5) rfl ?_
            refine ge_iload hC dL_pleas_249 (j := 1) rfl ?_
            refine ge_iconst hC dL_pleas_251 ?_
            refine ge_ask (As := [zz_v r9, zz_v 3]) (rest := []) hC hF (c_X3_about l hl9 N0 _ Y a T10 r9 3 r9r ⟨by decide, by decide⟩ ICT10) (by refine ⟨?_, ?_, ?_⟩ <;> first | omega | exact fun z => z) (cwV 2 hts gL_pleas_X3_about rfl rfl rfl (by decide +kernel) ⟨by decide, by decide⟩) rfl rfl (Nat.le_of_ble_eq_true rfl) dL_pleas_252 ⟨Nat.le_of_ble_eq_true rfl, Nat.le_of_ble_eq_true rfl⟩ (fun _ q46r => ?_)
            obtain ⟨a47, a47e⟩ : ∃ a47 : Int, a47 = zz_ab T10 r9.toNat 3 := ⟨_, rfl⟩
            have a47r : zz_R a47 := by rw [a47e]; exact q46r
            refine ge_top (y := a47) a47e.symm ?_
            clear q46r
            have a47q : 1 ≤ a47 ∧ a47 ≤ 3 := by rw [a47e]; exact m8
            refine ge_iconst hC dL_pleas_255 ?_
            refine ge_icmp_gt hC dL_pleas_256 (tgt := 319) (by decide) a47r ⟨by decide, by decide⟩ (fun c48 => (by omega)) (fun c48 => ?_)
            refine ge_iload hC dL_pleas_259 (j := 0) rfl ?_
            refine ge_if_eq hC dL_pleas_261 (tgt := 298) (by decide) ⟨by decide, by decide⟩ (fun c49 => (by omega)) (fun c49 => ?_)
            refine ge_aload_n hC dL_pleas_264 rfl (j := 5) rfl ?_
            refine ge_iload hC dL_pleas_265 (j := 1) rfl ?_
            refine ge_iconst hC dL_pleas_267 ?_
            refine ge_ask (As := [zz_v r9, zz_v 2]) (rest := []) hC hF (c_X3_about l hl9 N0 _ Y a T10 r9 2 r9r ⟨by decide, by decide⟩ ICT10) (by refine ⟨?_, ?_, ?_⟩ <;> first | omega | exact fun z => z) (cwV 2 hts gL_pleas_X3_about rfl rfl rfl (by decide +kernel) ⟨by decide, by decide⟩) rfl rfl (Nat.le_of_ble_eq_true rfl) dL_pleas_268 ⟨Nat.le_of_ble_eq_true rfl, Nat.le_of_ble_eq_true rfl⟩ (fun _ q50r => ?_)
            obtain ⟨a51, a51e⟩ : ∃ a51 : Int, a51 = zz_ab T10 r9.toNat 2 := ⟨_, rfl⟩
            have a51r : zz_R a51 := by rw [a51e]; exact q50r
            refine ge_top (y := a51) a51e.symm ?_
            clear q50r
            have a51q : a51 = 60 := by rw [a51e]; exact (m3 (by omega)).2.1
            refine ge_bipush hC dL_pleas_271 rfl ?_
            refine ge_icmp_ne hC dL_pleas_273 (tgt := 319) (by decide) a51r ⟨by decide, by decide⟩ (fun c52 => (by omega)) (fun c52 => ?_)
            refine ge_aload_n hC dL_pleas_276 rfl (j := 5) rfl ?_
            refine ge_iload hC dL_pleas_277 (j := 1) rfl ?_
            refine ge_iconst hC dL_pleas_279 ?_
            refine ge_ask (As := [zz_v r9, zz_v 3]) (rest := []) hC hF (c_X3_about l hl9 N0 _ Y a T10 r9 3 r9r ⟨by decide, by decide⟩ ICT10) (by refine ⟨?_, ?_, ?_⟩ <;> first | omega | exact fun z => z) (cwV 2 hts gL_pleas_X3_about rfl rfl rfl (by decide +kernel) ⟨by decide, by decide⟩) rfl rfl (Nat.le_of_ble_eq_true rfl) dL_pleas_280 ⟨Nat.le_of_ble_eq_true rfl, Nat.le_of_ble_eq_true rfl⟩ (fun _ q53r => ?_)
            obtain ⟨a54, a54e⟩ : ∃ a54 : Int, a54 = zz_ab T10 r9.toNat 3 := ⟨_, rfl⟩
            have a54r : zz_R a54 := by rw [a54e]; exact q53r
            refine ge_top (y := a54) a54e.symm ?_
            clear q53r
            have a54q : a54 = 1 := by rw [a54e]; exact (m3 (by omega)).2.2.1
            refine ge_iconst hC dL_pleas_283 ?_
            refine ge_icmp_ne hC dL_pleas_284 (tgt := 319) (by decide) a54r ⟨by decide, by decide⟩ (fun c55 => (by omega)) (fun c55 => ?_)
            refine ge_aload_n hC dL_pleas_287 rfl (j := 5) rfl ?_
            refine ge_iload hC dL_pleas_288 (j := 1) rfl ?_
            refine ge_iconst hC dL_pleas_290 ?_
            refine ge_ask (As := [zz_v r9, zz_v 5]) (rest := []) hC hF (c_X3_about l hl9 N0 _ Y a T10 r9 5 r9r ⟨by decide, by decide⟩ ICT10) (by refine ⟨?_, ?_, ?_⟩ <;> first | omega | exact fun z => z) (cwV 2 hts gL_pleas_X3_about rfl rfl rfl (by decide +kernel) ⟨by decide, by decide⟩) rfl rfl (Nat.le_of_ble_eq_true rfl) dL_pleas_291 ⟨Nat.le_of_ble_eq_true rfl, Nat.le_of_ble_eq_true rfl⟩ (fun _ q56r => ?_)
            obtain ⟨a57, a57e⟩ : ∃ a57 : Int, a57 = zz_ab T10 r9.toNat 5 := ⟨_, rfl⟩
            have a57r : zz_R a57 := by rw [a57e]; exact q56r
            refine ge_top (y := a57) a57e.symm ?_
            clear q56r
            have a57q : a57 = -1 := by rw [a57e]; exact (m3 (by omega)).2.2.2
            refine ge_iconst hC dL_pleas_294 ?_
            refine ge_icmp_ne hC dL_pleas_295 (tgt := 319) (by decide) a57r ⟨by decide, by decide⟩ (fun c58 => (by omega)) (fun c58 => ?_)
            refine ge_aload_n hC dL_pleas_298 rfl (j := 5) rfl ?_
            refine ge_aload_n hC dL_pleas_299 rfl (j := 6) rfl ?_
            refine ge_bipush hC dL_pleas_300 rfl ?_
            refine ge_iload hC dL_pleas_302 (j := 4) rfl ?_
            refine ge_iload hC dL_pleas_304 (j := 3) rfl ?_
            refine ge_iconst hC dL_pleas_306 ?_
            have m9q : zz_ba T10 s4.toNat s2.toNat (T10 0 10) = 0 := by rw [m5d, m9, ← a8e]; omega
            refine ge_both (what := 10) (x := s2) (y := s4) (w := 0) (rest := []) hl9 hC hF (fun G' a' => (c_L_does_complain l hl9 N0 G' Y a' T10 0 s2 s4 ⟨by omega, by omega⟩ ⟨by omega, by omega⟩ ICT10)) (by refine ⟨fun z9 => ⟨?_, ?_, ?_⟩, fun z9 => ⟨?_, ?_⟩, fun z9 => ?_⟩ <;> intro z8 <;> first | exact z8.elim | exact z9.elim | omega) (va_cwS 6 hts gL_pleas_L_both rfl rfl rfl (by decide +kernel) ⟨by decide, by decide⟩) rfl (Nat.le_of_ble_eq_true rfl) dL_pleas_307 ⟨Nat.le_of_ble_eq_true rfl, Nat.le_of_ble_eq_true rfl⟩ (fun r59 T60 r59r hw => ?_)
            rcases hw with ⟨r59e, hwF, hT⟩ | ⟨r59e, hwF, hT⟩ | ⟨r59e, hwF, hT⟩ | ⟨r59e, hwF, hT⟩
            · skip
              have r59q : r59 = r9 := by rw [r59e, if_neg (by omega)]; exact m10
              have hT2 : T60 = zz_cS T10 s2 s4 := hT
              obtain ⟨u1, u0⟩ := zk_again (k := r9.toNat) (x := s2) (y := s4) m1 ⟨by omega, by omega⟩ (by omega) (by rw [m10]; omega)
              rw [← hT2] at u1 u0
              have ua : T60 0 3 = T10 0 3 := by rw [u0]
              have ub : T60 0 7 = T10 0 7 := by rw [u0]
              have uc : T60 0 9 = T10 0 9 := by rw [u0]
              have ud : T60 0 10 = T10 0 10 := by rw [u0]
              have ICT60 : zz_IC T60 := zi_IC (by omega) u1
              refine ge_iload hC dL_pleas_310 (j := 1) rfl ?_
              refine ge_icmp_ne hC dL_pleas_312 (tgt := 319) (by decide) r59r r9r (fun c61 => (by omega)) (fun c61 => ?_)
              refine ge_iconst hC dL_pleas_315 ?_
              refine ge_goto hC dL_pleas_316 (tgt := 320) (by decide) ?_
              exact ge_ireturn hC hr rfl hlk dL_pleas_320 (Nat.le_of_ble_eq_true rfl) ⟨rfl, T60, V34, rfl, zi_wide (Nat.le_add_right _ _) u1, by unfold zi_V; first | omega | (refine ⟨?_, ?_, ?_, ?_⟩ <;> omega)⟩
            · exfalso; first | omega | exact hwF
            · exfalso; first | omega | exact hwF
            · exfalso; first | omega | exact hwF
        · skip
          refine ge_iload hC dL_pleas_151 (j := 1) rfl ?_
          refine ge_if_gt hC dL_pleas_153 (tgt := 164) (by decide) a8r (fun c62 => ?_) (fun c62 => ?_)
          · skip
            refine ge_iconst hC dL_pleas_164 ?_
            refine ge_goto hC dL_pleas_165 (tgt := 169) (by decide) ?_
            exact ge_ireturn hC hr rfl hlk dL_pleas_169 (Nat.le_of_ble_eq_true rfl) ⟨rfl, T10, V, rfl, zi_wide (Nat.le_add_right _ _) m1, by unfold zi_V; first | omega | (refine ⟨?_, ?_, ?_, ?_⟩ <;> omega)⟩
          · skip
            refine ge_aload_n hC dL_pleas_156 rfl (j := 6) rfl ?_
            refine ge_iconst hC dL_pleas_157 ?_
            refine ge_iald hC hK (q := 0) (j := 2) hnA rfl rfl (by decide) dL_pleas_158 (fun _ => ?_)
            refine ge_top (y := T 0 9) hV.2.2.1 ?_
            refine ge_bipush hC dL_pleas_159 rfl ?_
            refine ge_icmp_ne hC dL_pleas_161 (tgt := 168) (by decide) ⟨by omega, by omega⟩ ⟨by decide, by decide⟩ (fun c63 => (by omega)) (fun c63 => ?_)
            refine ge_iconst hC dL_pleas_164 ?_
            refine ge_goto hC dL_pleas_165 (tgt := 169) (by decide) ?_
            exact ge_ireturn hC hr rfl hlk dL_pleas_169 (Nat.le_of_ble_eq_true rfl) ⟨rfl, T10, V, rfl, zi_wide (Nat.le_add_right _ _) m1, by unfold zi_V; first | omega | (refine ⟨?_, ?_, ?_, ?_⟩ <;> omega)⟩
      · exfalso; first | omega | exact hwF
      · exfalso; first | omega | exact hwF
      · skip
        rw [r9e, hT]
        refine ge_istore hC dL_pleas_142 (by decide) (lv' := [(8, zz_v (-2000000003)), (7, zz_v a8), (6, zz_v s4), (5, zz_v s2), (0, .ref (a 0)), (1, .ref (a 77)), (2, .ref (nA.getD 0 0)), (3, zz_v x), (4, zz_v z)]) rfl ?_
        refine ge_iload hC dL_pleas_144 (j := 0) rfl ?_
        refine ge_ldc hC (n := -2000000003) k23 dL_pleas_146 ?_
        refine ge_icmp_ne hC dL_pleas_148 (tgt := 170) (by decide) ⟨by decide, by decide⟩ ⟨by decide, by decide⟩ (fun c64 => (by omega)) (fun c64 => ?_)
        refine ge_iload hC dL_pleas_151 (j := 1) rfl ?_
        refine ge_if_gt hC dL_pleas_153 (tgt := 164) (by decide) a8r (fun c65 => ?_) (fun c65 => ?_)
        · skip
          refine ge_iconst hC dL_pleas_164 ?_
          refine ge_goto hC dL_pleas_165 (tgt := 169) (by decide) ?_
          exact ge_ireturn hC hr rfl hlk dL_pleas_169 (Nat.le_of_ble_eq_true rfl) ⟨rfl, T, V, rfl, zi_wide (Nat.le_add_right _ _) hI, by unfold zi_V; first | omega | (refine ⟨?_, ?_, ?_, ?_⟩ <;> omega)⟩
        · skip
          refine ge_aload_n hC dL_pleas_156 rfl (j := 6) rfl ?_
          refine ge_iconst hC dL_pleas_157 ?_
          refine ge_iald hC hK (q := 0) (j := 2) hnA rfl rfl (by decide) dL_pleas_158 (fun _ => ?_)
          refine ge_top (y := T 0 9) hV.2.2.1 ?_
          refine ge_bipush hC dL_pleas_159 rfl ?_
          refine ge_icmp_ne hC dL_pleas_161 (tgt := 168) (by decide) ⟨by omega, by omega⟩ ⟨by decide, by decide⟩ (fun c66 => (by omega)) (fun c66 => ?_)
          refine ge_iconst hC dL_pleas_164 ?_
          refine ge_goto hC dL_pleas_165 (tgt := 169) (by decide) ?_
          exact ge_ireturn hC hr rfl hlk dL_pleas_169 (Nat.le_of_ble_eq_true rfl) ⟨rfl, T, V, rfl, zi_wide (Nat.le_add_right _ _) hI, by unfold zi_V; first | omega | (refine ⟨?_, ?_, ?_, ?_⟩ <;> omega)⟩
    · skip
      refine ge_aload_n hC dL_pleas_55 rfl (j := 2) rfl ?_
      refine ge_aload_n hC dL_pleas_56 rfl (j := 3) rfl ?_
      refine ge_bipush hC dL_pleas_57 rfl ?_
      refine ge_iload hC dL_pleas_59 (j := 1) rfl ?_
      refine ge_iload hC dL_pleas_61 (j := 0) rfl ?_
      refine ge_iconst hC dL_pleas_63 ?_
      refine ge_both (what := 8) (x := s2) (y := s4) (w := 0) (rest := []) hl9 hC hF (fun G' a' => (c_L_does_plea l hl9 N0 G' Y a' T 0 s2 s4 ⟨by omega, by omega⟩ ⟨by omega, by omega⟩ hIC)) (by refine ⟨fun z9 => ⟨?_, ?_, ?_⟩, fun z9 => ⟨?_, ?_⟩, fun z9 => ?_⟩ <;> intro z8 <;> first | exact z8.elim | exact z9.elim | omega) (va_cwS 6 hts gL_pleas_L_both rfl rfl rfl (by decide +kernel) ⟨by decide, by decide⟩) rfl (Nat.le_of_ble_eq_true rfl) dL_pleas_64 ⟨Nat.le_of_ble_eq_true rfl, Nat.le_of_ble_eq_true rfl⟩ (fun r67 T68 r67r hw => ?_)
      rcases hw with ⟨r67e, hwF, hT⟩ | ⟨r67e, hwF, hT⟩ | ⟨r67e, hwF, hT⟩ | ⟨r67e, hwF, hT⟩
      · skip
        rw [r67e]
        have hT1 : T68 = zz_u T (37 + s4.toNat) s2.toNat (T 0 10) := hT
        obtain ⟨k1, k2, k3⟩ := zk_plea (i := s4.toNat) (x := s2.toNat) hI (by omega) (by omega)
        rw [← hT1] at k1 k2 k3
        have k10 : T68 0 = T 0 := by rw [hT1, zz_u_off _ _ (by omega)]
        have k1a : T68 0 3 = T 0 3 := by rw [k10]
        have k1b : T68 0 7 = T 0 7 := by rw [k10]
        have k1c : T68 0 9 = T 0 9 := by rw [k10]
        have k1d : T68 0 10 = T 0 10 := by rw [k10]
        have ICT68 : zz_IC T68 := zi_IC (by omega) k1
        refine ge_istore hC dL_pleas_67 (by decide) (lv' := [(7, zz_v 0), (6, zz_v s4), (5, zz_v s2), (0, .ref (a 0)), (1, .ref (a 77)), (2, .ref (nA.getD 0 0)), (3, zz_v x), (4, zz_v z)]) rfl ?_
        refine ge_iload hC dL_pleas_69 (j := 0) rfl ?_
        refine ge_if_eq hC dL_pleas_71 (tgt := 81) (by decide) ⟨by decide, by decide⟩ (fun c69 => ?_) (fun c69 => (by omega))
        refine ge_iload hC dL_pleas_81 (j := 0) rfl ?_
        refine ge_if_ne hC dL_pleas_83 (tgt := 98) (by decide) ⟨by decide, by decide⟩ (fun c70 => (by omega)) (fun c70 => ?_)
        refine ge_aload_n hC dL_pleas_86 rfl (j := 3) rfl ?_
        refine ge_iload hC dL_pleas_87 (j := 2) rfl ?_
        refine ge_iload hC dL_pleas_89 (j := 1) rfl ?_
        refine ge_ask (As := [zz_v s2, zz_v s4]) (rest := []) hC hF (c_X3_bar l hl9 N0 _ Y a T68 s2 s4 ⟨by omega, by omega⟩ ⟨by omega, by omega⟩ ICT68) (by refine ⟨?_, ?_, ?_⟩ <;> first | omega | exact fun z => z) (cwV 2 hts gL_pleas_X3_bar rfl rfl rfl (by decide +kernel) ⟨by decide, by decide⟩) rfl rfl (Nat.le_of_ble_eq_true rfl) dL_pleas_91 ⟨Nat.le_of_ble_eq_true rfl, Nat.le_of_ble_eq_true rfl⟩ (fun _ q71r => ?_)
        obtain ⟨a72, a72e⟩ : ∃ a72 : Int, a72 = zz_ba T68 s4.toNat s2.toNat (T68 0 10) := ⟨_, rfl⟩
        have a72r : zz_R a72 := by rw [a72e]; exact q71r
        refine ge_top (y := a72) a72e.symm ?_
        clear q71r
        have a72q : a72 = 1 := by rw [a72e, k1d]; exact k2
        refine ge_iconst hC dL_pleas_94 ?_
        refine ge_icmp_ne hC dL_pleas_95 (tgt := 118) (by decide) a72r ⟨by decide, by decide⟩ (fun c73 => (by omega)) (fun c73 => ?_)
        refine ge_aload_n hC dL_pleas_98 rfl (j := 3) rfl ?_
        refine ge_bipush hC dL_pleas_99 rfl ?_
        refine ge_iload hC dL_pleas_101 (j := 2) rfl ?_
        refine ge_iload hC dL_pleas_103 (j := 1) rfl ?_
        refine ge_iconst hC dL_pleas_105 ?_
        refine ge_callC (what := 8) (x := s2) (y := s4) (w := 0) (rest := []) hl9 hC hF (fun G' a' => (c_L_does_plea l hl9 N0 G' Y a' T68 0 s2 s4 ⟨by omega, by omega⟩ ⟨by omega, by omega⟩ ICT68)) (vx_cwSW 5 hts gL_pleas_L_call rfl rfl rfl (by decide +kernel) ⟨by decide, by decide⟩) rfl (Nat.le_of_ble_eq_true rfl) dL_pleas_106 ⟨Nat.le_of_ble_eq_true rfl, Nat.le_of_ble_eq_true rfl⟩ (fun r74 T75 r74r hw => ?_)
        rcases hw with ⟨r74e, hwF, hT⟩ | ⟨r74e, hwF, hT⟩ | ⟨r74e, hwF, hT⟩ | ⟨r74e, hwF, hT⟩
        · exfalso; first | omega | exact hwF
        · exfalso; first | omega | exact hwF
        · exfalso; first | omega | exact hwF
        · skip
          rw [r74e, hT]
          refine ge_ldc hC (n := -2000000003) k23 dL_pleas_109 ?_
          refine ge_icmp_ne hC dL_pleas_111 (tgt := 118) (by decide) ⟨by decide, by decide⟩ ⟨by decide, by decide⟩ (fun c76 => (by omega)) (fun c76 => ?_)
          refine ge_iconst hC dL_pleas_114 ?_
          refine ge_goto hC dL_pleas_115 (tgt := 119) (by decide) ?_
          exact ge_ireturn hC hr rfl hlk dL_pleas_119 (Nat.le_of_ble_eq_true rfl) ⟨rfl, T68, V, rfl, zi_wide (Nat.le_add_right _ _) k1, by unfold zi_V; first | omega | (refine ⟨?_, ?_, ?_, ?_⟩ <;> omega)⟩
      · exfalso; first | omega | exact hwF
      · exfalso; first | omega | exact hwF
      · skip
        rw [r67e, hT]
        refine ge_istore hC dL_pleas_67 (by decide) (lv' := [(7, zz_v (-2000000003)), (6, zz_v s4), (5, zz_v s2), (0, .ref (a 0)), (1, .ref (a 77)), (2, .ref (nA.getD 0 0)), (3, zz_v x), (4, zz_v z)]) rfl ?_
        refine ge_iload hC dL_pleas_69 (j := 0) rfl ?_
        refine ge_if_eq hC dL_pleas_71 (tgt := 81) (by decide) ⟨by decide, by decide⟩ (fun c77 => (by omega)) (fun c77 => ?_)
        refine ge_iload hC dL_pleas_74 (j := 0) rfl ?_
        refine ge_ldc hC (n := -2000000003) k23 dL_pleas_76 ?_
        refine ge_icmp_ne hC dL_pleas_78 (tgt := 118) (by decide) ⟨by decide, by decide⟩ ⟨by decide, by decide⟩ (fun c78 => (by omega)) (fun c78 => ?_)
        refine ge_iload hC dL_pleas_81 (j := 0) rfl ?_
        refine ge_if_ne hC dL_pleas_83 (tgt := 98) (by decide) ⟨by decide, by decide⟩ (fun c79 => ?_) (fun c79 => (by omega))
        refine ge_aload_n hC dL_pleas_98 rfl (j := 3) rfl ?_
        refine ge_bipush hC dL_pleas_99 rfl ?_
        refine ge_iload hC dL_pleas_101 (j := 2) rfl ?_
        refine ge_iload hC dL_pleas_103 (j := 1) rfl ?_
        refine ge_iconst hC dL_pleas_105 ?_
        refine ge_callC (what := 8) (x := s2) (y := s4) (w := 0) (rest := []) hl9 hC hF (fun G' a' => (c_L_does_plea l hl9 N0 G' Y a' T 0 s2 s4 ⟨by omega, by omega⟩ ⟨by omega, by omega⟩ hIC)) (vx_cwSW 5 hts gL_pleas_L_call rfl rfl rfl (by decide +kernel) ⟨by decide, by decide⟩) rfl (Nat.le_of_ble_eq_true rfl) dL_pleas_106 ⟨Nat.le_of_ble_eq_true rfl, Nat.le_of_ble_eq_true rfl⟩ (fun r80 T81 r80r hw => ?_)
        rcases hw with ⟨r80e, hwF, hT⟩ | ⟨r80e, hwF, hT⟩ | ⟨r80e, hwF, hT⟩ | ⟨r80e, hwF, hT⟩
        · exfalso; first | omega | exact hwF
        · exfalso; first | omega | exact hwF
        · exfalso; first | omega | exact hwF
        · skip
          rw [r80e, hT]
          refine ge_ldc hC (n := -2000000003) k23 dL_pleas_109 ?_
          refine ge_icmp_ne hC dL_pleas_111 (tgt := 118) (by decide) ⟨by decide, by decide⟩ ⟨by decide, by decide⟩ (fun c82 => (by omega)) (fun c82 => ?_)
          refine ge_iconst hC dL_pleas_114 ?_
          refine ge_goto hC dL_pleas_115 (tgt := 119) (by decide) ?_
          exact ge_ireturn hC hr rfl hlk dL_pleas_119 (Nat.le_of_ble_eq_true rfl) ⟨rfl, T, V, rfl, zi_wide (Nat.le_add_right _ _) hI, by unfold zi_V; first | omega | (refine ⟨?_, ?_, ?_, ?_⟩ <;> omega)⟩
  · skip
    refine ge_aload_n hC dL_pleas_6 rfl (j := 0) rfl ?_
    refine ge_bipush hC dL_pleas_7 rfl ?_
    refine ge_iconst hC dL_pleas_9 ?_
    refine ge_iconst hC dL_pleas_10 ?_
    refine ge_iconst hC dL_pleas_11 ?_
    refine ge_callC (what := 10) (x := 0) (y := 0) (w := 0) (rest := []) hl9 hC hF (fun G' a' => (c_L_does_complain l hl9 N0 G' Y a' T 0 0 0 ⟨by decide, by decide⟩ ⟨by decide, by decide⟩ hIC)) (vx_cwSW 5 hts gL_pleas_L_call rfl rfl rfl (by decide +kernel) ⟨by decide, by decide⟩) rfl (Nat.le_of_ble_eq_true rfl) dL_pleas_12 ⟨Nat.le_of_ble_eq_true rfl, Nat.le_of_ble_eq_true rfl⟩ (fun r83 T84 r83r hw => ?_)
    rcases hw with ⟨r83e, hwF, hT⟩ | ⟨r83e, hwF, hT⟩ | ⟨r83e, hwF, hT⟩ | ⟨r83e, hwF, hT⟩
    · exfalso; first | omega | exact hwF
    · skip
      rw [r83e, hT]
      refine ge_ldc hC (n := -2000000001) k17 dL_pleas_15 ?_
      refine ge_icmp_ne hC dL_pleas_17 (tgt := 24) (by decide) ⟨by decide, by decide⟩ ⟨by decide, by decide⟩ (fun c85 => (by omega)) (fun c85 => ?_)
      refine ge_iconst hC dL_pleas_20 ?_
      refine ge_goto hC dL_pleas_21 (tgt := 25) (by decide) ?_
      exact ge_ireturn hC hr rfl hlk dL_pleas_25 (Nat.le_of_ble_eq_true rfl) ⟨rfl, T, V, rfl, zi_wide (Nat.le_add_right _ _) hI, by unfold zi_V; first | omega | (refine ⟨?_, ?_, ?_, ?_⟩ <;> omega)⟩
    · exfalso; first | omega | exact hwF
    · exfalso; first | omega | exact hwF
