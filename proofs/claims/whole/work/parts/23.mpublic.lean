abbrev rm_X4_pass : Room := { frames := 1, cells := 0, slots := 0, locals := 22 }
set_option maxHeartbeats 4000000 in
set_option maxRecDepth 100000 in
theorem c_X4_pass (l : Launch) (hl9 : l.stackTraces = false) (N0 : Nat) (G : zz_G) (Y : zz_Y) (a : Nat → Nat) (S : zz_S) (x : Int) (hx : zz_R x) (hI : zz_IM S) (e1 : Int) (S1 : zz_S) (z0 : ¬ (1 ≤ x ∧ x ≤ 100) → e1 = 0 ∧ S1 = zz_u (S) 77 26 1) (z1 : (1 ≤ x ∧ x ≤ 100) ∧ 5000 < S 77 0 + x → e1 = 0 ∧ S1 = zz_u ((zz_u S 77 26 0)) 77 26 2) (z2 : (1 ≤ x ∧ x ≤ 100) ∧ ¬ 5000 < S 77 0 + x → e1 = S 77 0 + x ∧ S1 = zz_mpd (zz_u S 77 26 0) (S 77 17).toNat x.toNat) : CtR l yX4_pass wsX4_pass rm_X4_pass 0 [.ref (a 77), zz_v x] N0 G Y a S (e1) (S1) (True) (False) (False) (False) := by
  refine Ct_.of (cc := cX4_pass) (maxL := 4) (ret := (some .int)) (by decide) rfl (Nat.le_of_ble_eq_true rfl) ?_
  intro p e s m args below meth c hC hts hr hlk hex hF
  have hK := hF.2.1
  have w4 : ∀ w ∈ u_ws RX4 TX4 27, w.before args s = true := fun w h => hts w (List.mem_cons_of_mem _ (List.mem_append_right _ h))
  have f54 : (Cond.fieldLink RX4 54 "GrievancehallModel" "state" "[I").before args s = true := hts _ (by decide +kernel)
  have f57 : (Cond.fieldLink RX4 57 "GrievancehallModel" "left" "[I").before args s = true := hts _ (by decide +kernel)
  have f89 : (Cond.fieldLink RX4 89 "GrievancehallModel" "complaints" "I").before args s = true := hts _ (by decide +kernel)
  have f107 : (Cond.fieldLink RX4 107 "GrievancehallModel" "day" "I").before args s = true := hts _ (by decide +kernel)
  refine gd_lveq (lv' := [(0, .ref (a 77)), (1, zz_v x)]) rfl ?_
  obtain ⟨imd, iml, imo, ima, imc, iaf, ilm, iwh, ikd, itd, ims, ihm, ict, iwv, ipl, iab, ist, ilf, ipe, iak, ian, ihe, ifn, iav, iod⟩ := id hI
  obtain ⟨hx1, hx2⟩ := id hx
  refine gd_aload_n hC dX4_pass_0 rfl (j := 0) rfl ?_
  refine gd_iload_n hC dX4_pass_1 rfl (j := 1) rfl ?_
  refine gd_iconst hC dX4_pass_2 ?_
  refine gd_bipush hC dX4_pass_3 rfl ?_
  refine gd_callSR (As := [zz_v x, zz_v 1, zz_v 100]) (rest := [.ref (a 77)]) hC hF (fun hR => c_X4_in l hl9 N0 G Y a (S) x 1 100 ⟨by omega, by omega⟩ ⟨by decide, by decide⟩ ⟨by decide, by decide⟩) (va_cwS 3 hts gX4_pass_X4_in rfl rfl rfl (by decide +kernel) ⟨by decide, by decide⟩) rfl rfl (Nat.le_of_ble_eq_true rfl) dX4_pass_5 ⟨by decide, by decide⟩ (fun E hx => zz_xn hx) (fun q1 q1r => ?_)
  obtain ⟨q1a, q1b⟩ := id q1r
  refine gd_callVR (As := [zz_v (if 1 ≤ x ∧ x ≤ 100 then 1 else 0)]) (rest := []) hC hF (fun hR => c_X4_asks l hl9 N0 G Y a (S) (if 1 ≤ x ∧ x ≤ 100 then 1 else 0) (by omega)) (cwV 1 hts gX4_pass_X4_asks rfl rfl rfl (by decide +kernel) ⟨by decide, by decide⟩) rfl (by decide) (ci := 4) rfl rfl rfl rfl (Nat.le_of_ble_eq_true rfl) dX4_pass_8 ⟨by decide, by decide⟩ (fun E hx => zz_xn hx) (fun q2 q2r => ?_)
  obtain ⟨q2a, q2b⟩ := id q2r
  refine gd_if_ne hC dX4_pass_11 (tgt := 16) (by decide) ⟨by omega, by omega⟩ (fun c3 => ?_) (fun c3 => ?_)
  · skip
    refine gd_eq (S' := zz_u (S) (77) (26) (0)) (by rw [if_neg (by omega)]) ?_
    refine gd_aload_n hC dX4_pass_16 rfl (j := 0) rfl ?_
    refine gd_getI hC w4 hK (ci := 4) rfl (by decide) rfl 0 (by decide) rfl f107 rfl dX4_pass_17 (fun r4 => ?_)
    obtain ⟨r4a, r4b⟩ := id r4
    refine gd_top (y := S 77 0) (zz_u_ne _ _ (by omega)) ?_
    rw [(zz_u_ne _ _ (by omega) : (zz_u (S) (77) (26) (0)) (77) (0) = S 77 0)] at r4a r4b
    refine gd_iload_n hC dX4_pass_20 rfl (j := 1) rfl ?_
    refine gd_iadd hC dX4_pass_21 ?_
    refine gd_sipush hC dX4_pass_22 rfl ?_
    refine gd_icmp_le hC dX4_pass_25 (tgt := 34) (by decide) ⟨by omega, by omega⟩ ⟨by decide, by decide⟩ (fun c5 => ?_) (fun c5 => ?_)
    · skip
      refine gd_iconst hC dX4_pass_34 ?_
      refine gd_istore_n hC dX4_pass_35 rfl (by decide) (lv' := [(2, zz_v 0), (0, .ref (a 77)), (1, zz_v x)]) rfl ?_
      refine gd_sub [1, 2, 0] (lv' := [(0, .ref (a 77)), (1, zz_v x), (2, zz_v 0)]) rfl ?_
      refine gd_loop (σ := Nat) (μ := fun vz => x.toNat - vz) (I := fun vz => (vz ≤ x.toNat)) (Sf := fun vz => zz_mpd (zz_u S 77 26 0) (S 77 17).toNat vz) (lf := fun vz => [(0, .ref (a 77)), (1, zz_v x), (2, zz_v (vz : Int))]) 0 (by omega) rfl rfl (fun k hI ih36 => ?_)
      have hI0 : k ≤ x.toNat := hI
      refine gd_lveq (lv' := [(0, .ref (a 77)), (1, zz_v x), (2, zz_v (k : Int))]) rfl ?_
      refine gd_eq (S' := zz_mpd (zz_u S 77 26 0) (S 77 17).toNat k) rfl ?_
      have hday : zz_mpd (zz_u S 77 26 0) (S 77 17).toNat k 77 0 = S 77 0 + k := (zz_mpd_day _ _ _).trans (by rw [zz_u_ne _ _ (by omega)])
      refine gd_iload_n hC dX4_pass_36 rfl (j := 2) rfl ?_
      refine gd_iload_n hC dX4_pass_37 rfl (j := 1) rfl ?_
      refine gd_icmp_ge hC dX4_pass_38 (tgt := 120) (by decide) ⟨by omega, by omega⟩ ⟨by omega, by omega⟩ (fun c6 => ?_) (fun c6 => ?_)
      · skip
        refine gd_aload_n hC dX4_pass_120 rfl (j := 0) rfl ?_
        refine gd_getI hC w4 hK (ci := 4) rfl (by decide) rfl 0 (by decide) rfl f107 rfl dX4_pass_121 (fun r7 => ?_)
        obtain ⟨r7a, r7b⟩ := id r7
        refine gd_top (y := S 77 0 + (k : Int)) hday ?_
        have hdn : x.toNat = k := by omega
        have hdx : S 77 0 + x = S 77 0 + (k : Int) := by omega
        exact gd_ireturn hC hr rfl hlk dX4_pass_124 (by decide) ⟨_, ⟨by omega, by omega⟩, rfl, (by rw [(z2 (by omega)).2, hdn]), (by rw [(z2 (by omega)).1, hdx]), trivial⟩
      · skip
        refine gd_aload_n hC dX4_pass_41 rfl (j := 0) rfl ?_
        refine gd_dup hC dX4_pass_42 rfl ?_
        refine gd_getI hC w4 hK (ci := 4) rfl (by decide) rfl 0 (by decide) rfl f107 rfl dX4_pass_43 (fun r8 => ?_)
        obtain ⟨r8a, r8b⟩ := id r8
        refine gd_iconst hC dX4_pass_46 ?_
        refine gd_iadd hC dX4_pass_47 ?_
        refine gd_put hC w4 tyX4 tyX4_ok nmX4 hK (ci := 4) rfl (by decide) rfl 0 (by decide) rfl f107 rfl rfl (ty := .int) (by decide +kernel) rfl rfl ⟨by omega, by omega⟩ dX4_pass_48 ?_
        refine gd_iconst hC dX4_pass_51 ?_
        refine gd_istore_n hC dX4_pass_52 rfl (by decide) (lv' := [(3, zz_v 0), (0, .ref (a 77)), (1, zz_v x), (2, zz_v (k : Int))]) rfl ?_
        refine gd_sub [1, 2, 3, 0] (lv' := [(0, .ref (a 77)), (1, zz_v x), (2, zz_v (k : Int)), (3, zz_v 0)]) rfl ?_
        refine gd_loop (σ := Nat) (μ := fun vz => (S 77 17).toNat - vz) (I := fun vz => (vz ≤ (S 77 17).toNat)) (Sf := fun vz => zz_mp1 (zz_u (zz_mpd (zz_u S 77 26 0) (S 77 17).toNat k) 77 0 (zz_mpd (zz_u S 77 26 0) (S 77 17).toNat k 77 0 + 1)) vz) (lf := fun vz => [(0, .ref (a 77)), (1, zz_v x), (2, zz_v (k : Int)), (3, zz_v (vz : Int))]) 0 (by omega) rfl rfl (fun c hI ih53 => ?_)
        have hI0 : c ≤ (S 77 17).toNat := hI
        refine gd_lveq (lv' := [(0, .ref (a 77)), (1, zz_v x), (2, zz_v (k : Int)), (3, zz_v (c : Int))]) rfl ?_
        refine gd_eq (S' := zz_mp1 (zz_u (zz_mpd (zz_u S 77 26 0) (S 77 17).toNat k) 77 0 (zz_mpd (zz_u S 77 26 0) (S 77 17).toNat k 77 0 + 1)) c) rfl ?_
        have hcn : zz_mp1 (zz_u (zz_mpd (zz_u S 77 26 0) (S 77 17).toNat k) 77 0 (zz_mpd (zz_u S 77 26 0) (S 77 17).toNat k 77 0 + 1)) c 77 17 = S 77 17 := (congrFun (zz_mp1_off _ (by omega) (by omega) c) 17).trans ((zz_u_ne _ _ (by omega)).trans ((zz_mpd_off _ _ (by omega) (by omega) (by omega) k).trans (zz_u_ne _ _ (by omega))))
        have hlo1 := zz_mp1_lo (zz_u (zz_mpd (zz_u S 77 26 0) (S 77 17).toNat k) 77 0 (zz_mpd (zz_u S 77 26 0) (S 77 17).toNat k 77 0 + 1)) c c
        have hlo2 := zz_mpd_lo (zz_u S 77 26 0) (S 77 17).toNat c k
        have hlo3 : (zz_u (zz_mpd (zz_u S 77 26 0) (S 77 17).toNat k) 77 0 (zz_mpd (zz_u S 77 26 0) (S 77 17).toNat k 77 0 + 1)) 93 c = zz_mpd (zz_u S 77 26 0) (S 77 17).toNat k 93 c := zz_u_ne _ _ (by omega)
        have hlo4 : (zz_u S 77 26 0) 93 c = S 93 c := zz_u_ne _ _ (by omega)
        refine gd_iload_n hC dX4_pass_53 rfl (j := 3) rfl ?_
        refine gd_aload_n hC dX4_pass_54 rfl (j := 0) rfl ?_
        refine gd_getI hC w4 hK (ci := 4) rfl (by decide) rfl 17 (by decide) rfl f89 rfl dX4_pass_55 (fun r9 => ?_)
        obtain ⟨r9a, r9b⟩ := id r9
        refine gd_top (y := S 77 17) hcn ?_
        refine gd_icmp_ge hC dX4_pass_58 (tgt := 114) (by decide) ⟨by omega, by omega⟩ ⟨by omega, by omega⟩ (fun c10 => ?_) (fun c10 => ?_)
        · skip
          refine gd_iinc hC dX4_pass_114 (j := 2) rfl (y := ((k + 1 : Nat) : Int)) (by omega) (by decide) (lv' := [(2, zz_v ((k + 1 : Nat) : Int)), (0, .ref (a 77)), (1, zz_v x), (3, zz_v (c : Int))]) rfl ?_
          refine gd_goto hC dX4_pass_117 (tgt := 36) (by decide) ?_
          refine gd_sub [1, 2, 0] (lv' := [(0, .ref (a 77)), (1, zz_v x), (2, zz_v ((k + 1 : Nat) : Int))]) rfl ?_
          refine gd_lveq (lv' := [(0, .ref (a 77)), (1, zz_v x), (2, zz_v (((k + 1) : Nat) : Int))]) rfl ?_
          refine gd_eq (S' := zz_mpd (zz_u S 77 26 0) (S 77 17).toNat (k + 1)) (by rw [zz_mpd, show (S 77 17).toNat = c by omega]) ?_
          exact ih36 (k + 1) (by omega) (show x.toNat - (k + 1) < x.toNat - k by omega)
        · skip
          have hlf := ilf c (by omega)
          refine gd_aload_n hC dX4_pass_61 rfl (j := 0) rfl ?_
          refine gd_getR hC w4 hK (ci := 4) rfl (by decide) rfl 19 (by decide) (j := 92) rfl f54 rfl dX4_pass_62 ?_
          refine gd_iload_n hC dX4_pass_65 rfl (j := 3) rfl ?_
          refine gd_iald hC hK (j := c) rfl (by decide) rfl (by omega) (by decide) dX4_pass_66 (fun r11 => ?_)
          obtain ⟨r11a, r11b⟩ := id r11
          refine gd_if_ne hC dX4_pass_67 (tgt := 108) (by decide) ⟨by omega, by omega⟩ (fun c12 => ?_) (fun c12 => ?_)
          · skip
            refine gd_iinc hC dX4_pass_108 (j := 3) rfl (y := ((c + 1 : Nat) : Int)) (by omega) (by decide) (lv' := [(3, zz_v ((c + 1 : Nat) : Int)), (0, .ref (a 77)), (1, zz_v x), (2, zz_v (k : Int))]) rfl ?_
            refine gd_goto hC dX4_pass_111 (tgt := 53) (by decide) ?_
            refine gd_sub [1, 2, 3, 0] (lv' := [(0, .ref (a 77)), (1, zz_v x), (2, zz_v (k : Int)), (3, zz_v ((c + 1 : Nat) : Int))]) rfl ?_
            refine gd_lveq (lv' := [(0, .ref (a 77)), (1, zz_v x), (2, zz_v (k : Int)), (3, zz_v (((c + 1) : Nat) : Int))]) rfl ?_
            refine gd_eq (S' := zz_mp1 (zz_u (zz_mpd (zz_u S 77 26 0) (S 77 17).toNat k) 77 0 (zz_mpd (zz_u S 77 26 0) (S 77 17).toNat k 77 0 + 1)) (c + 1)) (by rw [zz_mp1]; unfold zz_mp0; first | rw [if_pos (by omega)] | (rw [if_neg (by omega)]; first | rw [if_pos (by omega)] | rw [if_neg (by omega)])) ?_
            exact ih53 (c + 1) (by omega) (show (S 77 17).toNat - (c + 1) < (S 77 17).toNat - c by omega)
          · skip
            refine gd_aload_n hC dX4_pass_70 rfl (j := 0) rfl ?_
            refine gd_iload_n hC dX4_pass_71 rfl (j := 3) rfl ?_
            refine gd_callVR (As := [zz_v (c : Int)]) (rest := []) hC hF (fun hR => c_X4_isOwed l hl9 N0 G Y a (zz_mp1 (zz_u (zz_mpd (zz_u S 77 26 0) (S 77 17).toNat k) 77 0 (zz_mpd (zz_u S 77 26 0) (S 77 17).toNat k 77 0 + 1)) c) (c : Int) c rfl (by omega)) (cwV 1 hts gX4_pass_X4_isOwed rfl rfl rfl (by decide +kernel) ⟨by decide, by decide⟩) rfl (by decide) (ci := 4) rfl rfl rfl rfl (Nat.le_of_ble_eq_true rfl) dX4_pass_72 ⟨by decide, by decide⟩ (fun E hx => zz_xn hx) (fun q13 q13r => ?_)
            obtain ⟨q13a, q13b⟩ := id q13r
            refine gd_if_ne hC dX4_pass_75 (tgt := 108) (by decide) ⟨by omega, by omega⟩ (fun c14 => ?_) (fun c14 => ?_)
            · skip
              refine gd_iinc hC dX4_pass_108 (j := 3) rfl (y := ((c + 1 : Nat) : Int)) (by omega) (by decide) (lv' := [(3, zz_v ((c + 1 : Nat) : Int)), (0, .ref (a 77)), (1, zz_v x), (2, zz_v (k : Int))]) rfl ?_
              refine gd_goto hC dX4_pass_111 (tgt := 53) (by decide) ?_
              refine gd_sub [1, 2, 3, 0] (lv' := [(0, .ref (a 77)), (1, zz_v x), (2, zz_v (k : Int)), (3, zz_v ((c + 1 : Nat) : Int))]) rfl ?_
              refine gd_lveq (lv' := [(0, .ref (a 77)), (1, zz_v x), (2, zz_v (k : Int)), (3, zz_v (((c + 1) : Nat) : Int))]) rfl ?_
              refine gd_eq (S' := zz_mp1 (zz_u (zz_mpd (zz_u S 77 26 0) (S 77 17).toNat k) 77 0 (zz_mpd (zz_u S 77 26 0) (S 77 17).toNat k 77 0 + 1)) (c + 1)) (by rw [zz_mp1]; unfold zz_mp0; first | rw [if_pos (by omega)] | (rw [if_neg (by omega)]; first | rw [if_pos (by omega)] | rw [if_neg (by omega)])) ?_
              exact ih53 (c + 1) (by omega) (show (S 77 17).toNat - (c + 1) < (S 77 17).toNat - c by omega)
            · skip
              refine gd_aload_n hC dX4_pass_78 rfl (j := 0) rfl ?_
              refine gd_getR hC w4 hK (ci := 4) rfl (by decide) rfl 20 (by decide) (j := 93) rfl f57 rfl dX4_pass_79 ?_
              refine gd_iload_n hC dX4_pass_82 rfl (j := 3) rfl ?_
              refine gd_dup2 hC dX4_pass_83 rfl rfl ?_
              refine gd_iald hC hK (j := c) rfl (by decide) rfl (by omega) (by decide) dX4_pass_84 (fun r15 => ?_)
              obtain ⟨r15a, r15b⟩ := id r15
              refine gd_iconst hC dX4_pass_85 ?_
              refine gd_isub hC dX4_pass_86 ?_
              refine gd_iast hC hK (j := c) rfl (by decide) rfl (by omega) (by decide) ⟨by omega, by omega⟩ dX4_pass_87 ?_
              refine gd_aload_n hC dX4_pass_88 rfl (j := 0) rfl ?_
              refine gd_getR hC w4 hK (ci := 4) rfl (by decide) rfl 19 (by decide) (j := 92) rfl f54 rfl dX4_pass_89 ?_
              refine gd_iload_n hC dX4_pass_92 rfl (j := 3) rfl ?_
              refine gd_aload_n hC dX4_pass_93 rfl (j := 0) rfl ?_
              refine gd_getR hC w4 hK (ci := 4) rfl (by decide) rfl 20 (by decide) (j := 93) rfl f57 rfl dX4_pass_94 ?_
              refine gd_iload_n hC dX4_pass_97 rfl (j := 3) rfl ?_
              refine gd_iald hC hK (j := c) rfl (by decide) rfl (by omega) (by decide) dX4_pass_98 (fun r16 => ?_)
              obtain ⟨r16a, r16b⟩ := id r16
              refine gd_top (y := ((zz_mp1 (zz_u (zz_mpd (zz_u S 77 26 0) (S 77 17).toNat k) 77 0 (zz_mpd (zz_u S 77 26 0) (S 77 17).toNat k 77 0 + 1)) c) 93 c) - 1) (zz_u_same _ _ _ _) ?_
              rw [(zz_u_same _ _ _ _ : (zz_u (zz_mp1 (zz_u (zz_mpd (zz_u S 77 26 0) (S 77 17).toNat k) 77 0 (zz_mpd (zz_u S 77 26 0) (S 77 17).toNat k 77 0 + 1)) c) (93) (c) (((zz_mp1 (zz_u (zz_mpd (zz_u S 77 26 0) (S 77 17).toNat k) 77 0 (zz_mpd (zz_u S 77 26 0) (S 77 17).toNat k 77 0 + 1)) c) 93 c) - 1)) (93) (c) = ((zz_mp1 (zz_u (zz_mpd (zz_u S 77 26 0) (S 77 17).toNat k) 77 0 (zz_mpd (zz_u S 77 26 0) (S 77 17).toNat k 77 0 + 1)) c) 93 c) - 1)] at r16a r16b
              refine gd_if_ne hC dX4_pass_99 (tgt := 106) (by decide) ⟨by omega, by omega⟩ (fun c17 => ?_) (fun c17 => ?_)
              · skip
                refine gd_iconst hC dX4_pass_106 ?_
                refine gd_iast hC hK (j := c) rfl (by decide) rfl (by omega) (by decide) ⟨by decide, by decide⟩ dX4_pass_107 ?_
                refine gd_iinc hC dX4_pass_108 (j := 3) rfl (y := ((c + 1 : Nat) : Int)) (by omega) (by decide) (lv' := [(3, zz_v ((c + 1 : Nat) : Int)), (0, .ref (a 77)), (1, zz_v x), (2, zz_v (k : Int))]) rfl ?_
                refine gd_goto hC dX4_pass_111 (tgt := 53) (by decide) ?_
                refine gd_sub [1, 2, 3, 0] (lv' := [(0, .ref (a 77)), (1, zz_v x), (2, zz_v (k : Int)), (3, zz_v ((c + 1 : Nat) : Int))]) rfl ?_
                refine gd_lveq (lv' := [(0, .ref (a 77)), (1, zz_v x), (2, zz_v (k : Int)), (3, zz_v (((c + 1) : Nat) : Int))]) rfl ?_
                refine gd_eq (S' := zz_mp1 (zz_u (zz_mpd (zz_u S 77 26 0) (S 77 17).toNat k) 77 0 (zz_mpd (zz_u S 77 26 0) (S 77 17).toNat k 77 0 + 1)) (c + 1)) (by rw [zz_mp1]; unfold zz_mp0; first | rw [if_pos (by omega)] | (rw [if_neg (by omega)]; first | rw [if_pos (by omega)] | rw [if_neg (by omega)])) ?_
                exact ih53 (c + 1) (by omega) (show (S 77 17).toNat - (c + 1) < (S 77 17).toNat - c by omega)
              · skip
                refine gd_iconst hC dX4_pass_102 ?_
                refine gd_goto hC dX4_pass_103 (tgt := 107) (by decide) ?_
                refine gd_iast hC hK (j := c) rfl (by decide) rfl (by omega) (by decide) ⟨by decide, by decide⟩ dX4_pass_107 ?_
                refine gd_iinc hC dX4_pass_108 (j := 3) rfl (y := ((c + 1 : Nat) : Int)) (by omega) (by decide) (lv' := [(3, zz_v ((c + 1 : Nat) : Int)), (0, .ref (a 77)), (1, zz_v x), (2, zz_v (k : Int))]) rfl ?_
                refine gd_goto hC dX4_pass_111 (tgt := 53) (by decide) ?_
                refine gd_sub [1, 2, 3, 0] (lv' := [(0, .ref (a 77)), (1, zz_v x), (2, zz_v (k : Int)), (3, zz_v ((c + 1 : Nat) : Int))]) rfl ?_
                refine gd_lveq (lv' := [(0, .ref (a 77)), (1, zz_v x), (2, zz_v (k : Int)), (3, zz_v (((c + 1) : Nat) : Int))]) rfl ?_
                refine gd_eq (S' := zz_mp1 (zz_u (zz_mpd (zz_u S 77 26 0) (S 77 17).toNat k) 77 0 (zz_mpd (zz_u S 77 26 0) (S 77 17).toNat k 77 0 + 1)) (c + 1)) (by rw [zz_mp1]; unfold zz_mp0; first | rw [if_pos (by omega)] | (rw [if_neg (by omega)]; first | rw [if_pos (by omega)] | rw [if_neg (by omega)])) ?_
                exact ih53 (c + 1) (by omega) (show (S 77 17).toNat - (c + 1) < (S 77 17).toNat - c by omega)
    · skip
      refine gd_aload_n hC dX4_pass_28 rfl (j := 0) rfl ?_
      refine gd_iconst hC dX4_pass_29 ?_
      refine gd_callVR (As := [zz_v 2]) (rest := []) hC hF (fun hR => c_X4_fails l hl9 N0 G Y a (zz_u (S) (77) (26) (0)) 2 ⟨by decide, by decide⟩) (cwV 1 hts gX4_pass_X4_fails rfl rfl rfl (by decide +kernel) ⟨by decide, by decide⟩) rfl (by decide) (ci := 4) rfl rfl rfl rfl (Nat.le_of_ble_eq_true rfl) dX4_pass_30 ⟨by decide, by decide⟩ (fun E hx => zz_xn hx) (fun q18 q18r => ?_)
      obtain ⟨q18a, q18b⟩ := id q18r
      exact gd_ireturn hC hr rfl hlk dX4_pass_33 (by decide) ⟨_, ⟨by decide, by decide⟩, rfl, (z1 (by omega)).2.symm, (z1 (by omega)).1.symm, trivial⟩
  · skip
    refine gd_eq (S' := zz_u (S) (77) (26) (1)) (by rw [if_pos (by omega)]) ?_
    refine gd_iconst hC dX4_pass_14 ?_
    exact gd_ireturn hC hr rfl hlk dX4_pass_15 (by decide) ⟨_, ⟨by decide, by decide⟩, rfl, (z0 (by omega)).2.symm, (z0 (by omega)).1.symm, trivial⟩

abbrev rm_X4_about : Room := { frames := 2, cells := 0, slots := 0, locals := 43 }
set_option maxHeartbeats 4000000 in
set_option maxRecDepth 100000 in
theorem c_X4_about (l : Launch) (hl9 : l.stackTraces = false) (N0 : Nat) (G : zz_G) (Y : zz_Y) (a : Nat → Nat) (S : zz_S) (x y : Int) (hx : zz_R x) (hy : zz_R y) (hI : zz_IM S) (e1 : Int) (S1 : zz_S) (z0 : ¬ (0 ≤ x ∧ x ≤ S 77 17 - 1) → e1 = 0 ∧ S1 = zz_u (S) 77 26 1) (z1 : (0 ≤ x ∧ x ≤ S 77 17 - 1) ∧ (y < 0 ∨ 5 < y) → e1 = 0 ∧ S1 = zz_u ((zz_u S 77 26 0)) 77 26 2) (z2 : (0 ≤ x ∧ x ≤ S 77 17 - 1) ∧ y = 0 → e1 = S 92 x.toNat ∧ S1 = (zz_u S 77 26 0)) (z3 : (0 ≤ x ∧ x ≤ S 77 17 - 1) ∧ y = 1 → e1 = S 91 x.toNat ∧ S1 = (zz_u S 77 26 0)) (z4 : (0 ≤ x ∧ x ≤ S 77 17 - 1) ∧ y = 2 → e1 = S 93 x.toNat ∧ S1 = (zz_u S 77 26 0)) (z5 : (0 ≤ x ∧ x ≤ S 77 17 - 1) ∧ y = 3 → e1 = ((zz_on (S 94 x.toNat).toNat 10 : Nat) : Int) ∧ S1 = (zz_u S 77 26 0)) (z6 : (0 ≤ x ∧ x ≤ S 77 17 - 1) ∧ y = 4 → e1 = zz_mow (S 95) (S 96) x.toNat ∧ S1 = (zz_u S 77 26 0)) (z7 : (0 ≤ x ∧ x ≤ S 77 17 - 1) ∧ y = 5 → e1 = S 98 x.toNat ∧ S1 = (zz_u S 77 26 0)) : CtR l yX4_about wsX4_about rm_X4_about 0 [.ref (a 77), zz_v x, zz_v y] N0 G Y a S (e1) (S1) (True) (False) (False) (False) := by
  refine Ct_.of (cc := cX4_about) (maxL := 3) (ret := (some .int)) (by decide) rfl (Nat.le_of_ble_eq_true rfl) ?_
  intro p e s m args below meth c hC hts hr hlk hex hF
  have hK := hF.2.1
  have w4 : ∀ w ∈ u_ws RX4 TX4 27, w.before args s = true := fun w h => hts w (List.mem_cons_of_mem _ (List.mem_append_right _ h))
  have f51 : (Cond.fieldLink RX4 51 "GrievancehallModel" "about" "[I").before args s = true := hts _ (by decide +kernel)
  have f54 : (Cond.fieldLink RX4 54 "GrievancehallModel" "state" "[I").before args s = true := hts _ (by decide +kernel)
  have f57 : (Cond.fieldLink RX4 57 "GrievancehallModel" "left" "[I").before args s = true := hts _ (by decide +kernel)
  have f60 : (Cond.fieldLink RX4 60 "GrievancehallModel" "people" "[I").before args s = true := hts _ (by decide +kernel)
  have f72 : (Cond.fieldLink RX4 72 "GrievancehallModel" "finding" "[I").before args s = true := hts _ (by decide +kernel)
  refine gd_lveq (lv' := [(0, .ref (a 77)), (1, zz_v x), (2, zz_v y)]) rfl ?_
  obtain ⟨imd, iml, imo, ima, imc, iaf, ilm, iwh, ikd, itd, ims, ihm, ict, iwv, ipl, iab, ist, ilf, ipe, iak, ian, ihe, ifn, iav, iod⟩ := id hI
  obtain ⟨hx1, hx2⟩ := id hx
  obtain ⟨hy1, hy2⟩ := id hy
  refine gd_aload_n hC dX4_about_0 rfl (j := 0) rfl ?_
  refine gd_aload_n hC dX4_about_1 rfl (j := 0) rfl ?_
  refine gd_iload_n hC dX4_about_2 rfl (j := 1) rfl ?_
  refine gd_callVR (As := [zz_v x]) (rest := [.ref (a 77)]) hC hF (fun hR => c_X4_isComplaint l hl9 N0 G Y a (S) x ⟨by omega, by omega⟩ (by omega)) (cwV 1 hts gX4_about_X4_isComplaint rfl rfl rfl (by decide +kernel) ⟨by decide, by decide⟩) rfl (by decide) (ci := 4) rfl rfl rfl rfl (Nat.le_of_ble_eq_true rfl) dX4_about_3 ⟨by decide, by decide⟩ (fun E hx => zz_xn hx) (fun q1 q1r => ?_)
  obtain ⟨q1a, q1b⟩ := id q1r
  refine gd_callVR (As := [zz_v (if 0 ≤ x ∧ x ≤ S 77 17 - 1 then 1 else 0)]) (rest := []) hC hF (fun hR => c_X4_asks l hl9 N0 G Y a (S) (if 0 ≤ x ∧ x ≤ S 77 17 - 1 then 1 else 0) (by omega)) (cwV 1 hts gX4_about_X4_asks rfl rfl rfl (by decide +kernel) ⟨by decide, by decide⟩) rfl (by decide) (ci := 4) rfl rfl rfl rfl (Nat.le_of_ble_eq_true rfl) dX4_about_6 ⟨by decide, by decide⟩ (fun E hx => zz_xn hx) (fun q2 q2r => ?_)
  obtain ⟨q2a, q2b⟩ := id q2r
  refine gd_if_ne hC dX4_about_9 (tgt := 14) (by decide) ⟨by omega, by omega⟩ (fun c3 => ?_) (fun c3 => ?_)
  · skip
    refine gd_eq (S' := zz_u (S) (77) (26) (0)) (by rw [if_neg (by omega)]) ?_
    refine gd_iload_n hC dX4_about_14 rfl (j := 2) rfl ?_
    have c4 : (y < 0 ∨ 5 < y) ∨ y = 0 ∨ y = 1 ∨ y = 2 ∨ y = 3 ∨ y = 4 ∨ y = 5 := by omega
    rcases c4 with c4 | c4 | c4 | c4 | c4 | c4 | c4
    · skip
      refine gd_tableOut hC dX4_about_15 ⟨by omega, by omega⟩ c4 (tgt := 104) (by decide) ?_
      refine gd_aload_n hC dX4_about_104 rfl (j := 0) rfl ?_
      refine gd_iconst hC dX4_about_105 ?_
      refine gd_callVR (As := [zz_v 2]) (rest := []) hC hF (fun hR => c_X4_fails l hl9 N0 G Y a (zz_u (S) (77) (26) (0)) 2 ⟨by decide, by decide⟩) (cwV 1 hts gX4_about_X4_fails rfl rfl rfl (by decide +kernel) ⟨by decide, by decide⟩) rfl (by decide) (ci := 4) rfl rfl rfl rfl (Nat.le_of_ble_eq_true rfl) dX4_about_106 ⟨by decide, by decide⟩ (fun E hx => zz_xn hx) (fun q5 q5r => ?_)
      obtain ⟨q5a, q5b⟩ := id q5r
      exact gd_ireturn hC hr rfl hlk dX4_about_109 (by decide) ⟨_, ⟨by decide, by decide⟩, rfl, (z1 (by omega)).2.symm, (z1 (by omega)).1.symm, trivial⟩
    · skip
      refine gd_tableIn hC dX4_about_15 0 c4 ⟨by decide, by decide⟩ (by decide) (by decide) rfl (tgt := 52) (by decide) ?_
      refine gd_aload_n hC dX4_about_52 rfl (j := 0) rfl ?_
      refine gd_getR hC w4 hK (ci := 4) rfl (by decide) rfl 19 (by decide) (j := 92) rfl f54 rfl dX4_about_53 ?_
      refine gd_iload_n hC dX4_about_56 rfl (j := 1) rfl ?_
      refine gd_iald hC hK (j := x.toNat) rfl (by decide) (by omega) (by omega) (by decide) dX4_about_57 (fun r6 => ?_)
      obtain ⟨r6a, r6b⟩ := id r6
      refine gd_top (y := S 92 x.toNat) (zz_u_ne _ _ (by omega)) ?_
      rw [(zz_u_ne _ _ (by omega) : (zz_u (S) (77) (26) (0)) (92) (x.toNat) = S 92 x.toNat)] at r6a r6b
      exact gd_ireturn hC hr rfl hlk dX4_about_58 (by decide) ⟨_, ⟨by omega, by omega⟩, rfl, (z2 (by omega)).2.symm, (z2 (by omega)).1.symm, trivial⟩
    · skip
      refine gd_tableIn hC dX4_about_15 1 c4 ⟨by decide, by decide⟩ (by decide) (by decide) rfl (tgt := 59) (by decide) ?_
      refine gd_aload_n hC dX4_about_59 rfl (j := 0) rfl ?_
      refine gd_getR hC w4 hK (ci := 4) rfl (by decide) rfl 18 (by decide) (j := 91) rfl f51 rfl dX4_about_60 ?_
      refine gd_iload_n hC dX4_about_63 rfl (j := 1) rfl ?_
      refine gd_iald hC hK (j := x.toNat) rfl (by decide) (by omega) (by omega) (by decide) dX4_about_64 (fun r7 => ?_)
      obtain ⟨r7a, r7b⟩ := id r7
      refine gd_top (y := S 91 x.toNat) (zz_u_ne _ _ (by omega)) ?_
      rw [(zz_u_ne _ _ (by omega) : (zz_u (S) (77) (26) (0)) (91) (x.toNat) = S 91 x.toNat)] at r7a r7b
      exact gd_ireturn hC hr rfl hlk dX4_about_65 (by decide) ⟨_, ⟨by omega, by omega⟩, rfl, (z3 (by omega)).2.symm, (z3 (by omega)).1.symm, trivial⟩
    · skip
      refine gd_tableIn hC dX4_about_15 2 c4 ⟨by decide, by decide⟩ (by decide) (by decide) rfl (tgt := 66) (by decide) ?_
      refine gd_aload_n hC dX4_about_66 rfl (j := 0) rfl ?_
      refine gd_getR hC w4 hK (ci := 4) rfl (by decide) rfl 20 (by decide) (j := 93) rfl f57 rfl dX4_about_67 ?_
      refine gd_iload_n hC dX4_about_70 rfl (j := 1) rfl ?_
      refine gd_iald hC hK (j := x.toNat) rfl (by decide) (by omega) (by omega) (by decide) dX4_about_71 (fun r8 => ?_)
      obtain ⟨r8a, r8b⟩ := id r8
      refine gd_top (y := S 93 x.toNat) (zz_u_ne _ _ (by omega)) ?_
      rw [(zz_u_ne _ _ (by omega) : (zz_u (S) (77) (26) (0)) (93) (x.toNat) = S 93 x.toNat)] at r8a r8b
      exact gd_ireturn hC hr rfl hlk dX4_about_72 (by decide) ⟨_, ⟨by omega, by omega⟩, rfl, (z4 (by omega)).2.symm, (z4 (by omega)).1.symm, trivial⟩
    · skip
      refine gd_tableIn hC dX4_about_15 3 c4 ⟨by decide, by decide⟩ (by decide) (by decide) rfl (tgt := 73) (by decide) ?_
      refine gd_aload_n hC dX4_about_73 rfl (j := 0) rfl ?_
      refine gd_getR hC w4 hK (ci := 4) rfl (by decide) rfl 21 (by decide) (j := 94) rfl f60 rfl dX4_about_74 ?_
      refine gd_iload_n hC dX4_about_77 rfl (j := 1) rfl ?_
      refine gd_iald hC hK (j := x.toNat) rfl (by decide) (by omega) (by omega) (by decide) dX4_about_78 (fun r9 => ?_)
      obtain ⟨r9a, r9b⟩ := id r9
      refine gd_top (y := S 94 x.toNat) (zz_u_ne _ _ (by omega)) ?_
      rw [(zz_u_ne _ _ (by omega) : (zz_u (S) (77) (26) (0)) (94) (x.toNat) = S 94 x.toNat)] at r9a r9b
      have hipe_ := ipe x.toNat (by omega)
      refine gd_callSR (As := [zz_v (S 94 x.toNat)]) (rest := []) hC hF (fun hR => c_X4_ones l hl9 N0 G Y a (zz_u (S) (77) (26) (0)) (S 94 x.toNat) (by omega)) (va_cwS 1 hts gX4_about_X4_ones rfl rfl rfl (by decide +kernel) ⟨by decide, by decide⟩) rfl rfl (Nat.le_of_ble_eq_true rfl) dX4_about_79 ⟨by decide, by decide⟩ (fun E hx => zz_xn hx) (fun q10 q10r => ?_)
      obtain ⟨q10a, q10b⟩ := id q10r
      exact gd_ireturn hC hr rfl hlk dX4_about_82 (by decide) ⟨_, ⟨by omega, by omega⟩, rfl, (z5 (by omega)).2.symm, (z5 (by omega)).1.symm, trivial⟩
    · skip
      refine gd_tableIn hC dX4_about_15 4 c4 ⟨by decide, by decide⟩ (by decide) (by decide) rfl (tgt := 83) (by decide) ?_
      refine gd_aload_n hC dX4_about_83 rfl (j := 0) rfl ?_
      refine gd_iload_n hC dX4_about_84 rfl (j := 1) rfl ?_
      refine gd_callVR (As := [zz_v x]) (rest := []) hC hF (fun hR => c_X4_isOwed l hl9 N0 G Y a (zz_u (S) (77) (26) (0)) x x.toNat (by omega) (by omega)) (cwV 1 hts gX4_about_X4_isOwed rfl rfl rfl (by decide +kernel) ⟨by decide, by decide⟩) rfl (by decide) (ci := 4) rfl rfl rfl rfl (Nat.le_of_ble_eq_true rfl) dX4_about_85 ⟨by decide, by decide⟩ (fun E hx => zz_xn hx) (fun q11 q11r => ?_)
      obtain ⟨q11a, q11b⟩ := id q11r
      refine gd_top (y := zz_mow (S 95) (S 96) x.toNat) rfl ?_
      have q11n : zz_R (zz_mow (S 95) (S 96) x.toNat) := q11r
      obtain ⟨q11na, q11nb⟩ := id q11n
      have q11F : zz_mow (S 95) (S 96) x.toNat = 0 ∨ zz_mow (S 95) (S 96) x.toNat = 1 := q11
      refine gd_if_eq hC dX4_about_88 (tgt := 95) (by decide) ⟨by omega, by omega⟩ (fun c12 => ?_) (fun c12 => ?_)
      · skip
        refine gd_iconst hC dX4_about_95 ?_
        exact gd_ireturn hC hr rfl hlk dX4_about_96 (by decide) ⟨_, ⟨by decide, by decide⟩, rfl, (z6 (by omega)).2.symm, (by rw [(z6 (by omega)).1]; omega), trivial⟩
      · skip
        refine gd_iconst hC dX4_about_91 ?_
        refine gd_goto hC dX4_about_92 (tgt := 96) (by decide) ?_
        exact gd_ireturn hC hr rfl hlk dX4_about_96 (by decide) ⟨_, ⟨by decide, by decide⟩, rfl, (z6 (by omega)).2.symm, (by rw [(z6 (by omega)).1]; omega), trivial⟩
    · skip
      refine gd_tableIn hC dX4_about_15 5 c4 ⟨by decide, by decide⟩ (by decide) (by decide) rfl (tgt := 97) (by decide) ?_
      refine gd_aload_n hC dX4_about_97 rfl (j := 0) rfl ?_
      refine gd_getR hC w4 hK (ci := 4) rfl (by decide) rfl 25 (by decide) (j := 98) rfl f72 rfl dX4_about_98 ?_
      refine gd_iload_n hC dX4_about_101 rfl (j := 1) rfl ?_
      refine gd_iald hC hK (j := x.toNat) rfl (by decide) (by omega) (by omega) (by decide) dX4_about_102 (fun r13 => ?_)
      obtain ⟨r13a, r13b⟩ := id r13
      refine gd_top (y := S 98 x.toNat) (zz_u_ne _ _ (by omega)) ?_
      rw [(zz_u_ne _ _ (by omega) : (zz_u (S) (77) (26) (0)) (98) (x.toNat) = S 98 x.toNat)] at r13a r13b
      exact gd_ireturn hC hr rfl hlk dX4_about_103 (by decide) ⟨_, ⟨by omega, by omega⟩, rfl, (z7 (by omega)).2.symm, (z7 (by omega)).1.symm, trivial⟩
  · skip
    refine gd_eq (S' := zz_u (S) (77) (26) (1)) (by rw [if_pos (by omega)]) ?_
    refine gd_iconst hC dX4_about_12 ?_
    exact gd_ireturn hC hr rfl hlk dX4_about_13 (by decide) ⟨_, ⟨by decide, by decide⟩, rfl, (z0 (by omega)).2.symm, (z0 (by omega)).1.symm, trivial⟩

abbrev rm_X4_reminder : Room := { frames := 2, cells := 0, slots := 0, locals := 43 }
set_option maxHeartbeats 4000000 in
set_option maxRecDepth 100000 in
theorem c_X4_reminder (l : Launch) (hl9 : l.stackTraces = false) (N0 : Nat) (G : zz_G) (Y : zz_Y) (a : Nat → Nat) (S : zz_S) (x : Int) (hx : zz_R x) (hI : zz_IM S) (e1 : Int) (S1 : zz_S) (z0 : ¬ (0 ≤ x ∧ x ≤ S 77 17 - 1) → e1 = 0 ∧ S1 = zz_u (S) 77 26 1) (z1 : (0 ≤ x ∧ x ≤ S 77 17 - 1) ∧ zz_mow (S 95) (S 96) x.toNat = 0 → e1 = -1 ∧ S1 = (zz_u S 77 26 0)) (z2 : (0 ≤ x ∧ x ≤ S 77 17 - 1) ∧ ¬ zz_mow (S 95) (S 96) x.toNat = 0 → e1 = zz_mcl (S 79) ((S 77 0 - S 95 x.toNat) / 10).toNat (S 82 (S 91 x.toNat).toNat) ∧ S1 = (zz_u S 77 26 0)) : CtR l yX4_reminder wsX4_reminder rm_X4_reminder 0 [.ref (a 77), zz_v x] N0 G Y a S (e1) (S1) (True) (False) (False) (False) := by
  refine Ct_.of (cc := cX4_reminder) (maxL := 5) (ret := (some .int)) (by decide) rfl (Nat.le_of_ble_eq_true rfl) ?_
  intro p e s m args below meth c hC hts hr hlk hex hF
  have hK := hF.2.1
  have w4 : ∀ w ∈ u_ws RX4 TX4 27, w.before args s = true := fun w h => hts w (List.mem_cons_of_mem _ (List.mem_append_right _ h))
  have f13 : (Cond.fieldLink RX4 13 "GrievancehallModel" "above" "[I").before args s = true := hts _ (by decide +kernel)
  have f23 : (Cond.fieldLink RX4 23 "GrievancehallModel" "whoseAct" "[I").before args s = true := hts _ (by decide +kernel)
  have f51 : (Cond.fieldLink RX4 51 "GrievancehallModel" "about" "[I").before args s = true := hts _ (by decide +kernel)
  have f63 : (Cond.fieldLink RX4 63 "GrievancehallModel" "asked" "[I").before args s = true := hts _ (by decide +kernel)
  have f107 : (Cond.fieldLink RX4 107 "GrievancehallModel" "day" "I").before args s = true := hts _ (by decide +kernel)
  refine gd_lveq (lv' := [(0, .ref (a 77)), (1, zz_v x)]) rfl ?_
  obtain ⟨imd, iml, imo, ima, imc, iaf, ilm, iwh, ikd, itd, ims, ihm, ict, iwv, ipl, iab, ist, ilf, ipe, iak, ian, ihe, ifn, iav, iod⟩ := id hI
  obtain ⟨hx1, hx2⟩ := id hx
  refine gd_aload_n hC dX4_reminder_0 rfl (j := 0) rfl ?_
  refine gd_aload_n hC dX4_reminder_1 rfl (j := 0) rfl ?_
  refine gd_iload_n hC dX4_reminder_2 rfl (j := 1) rfl ?_
  refine gd_callVR (As := [zz_v x]) (rest := [.ref (a 77)]) hC hF (fun hR => c_X4_isComplaint l hl9 N0 G Y a (S) x ⟨by omega, by omega⟩ (by omega)) (cwV 1 hts gX4_reminder_X4_isComplaint rfl rfl rfl (by decide +kernel) ⟨by decide, by decide⟩) rfl (by decide) (ci := 4) rfl rfl rfl rfl (Nat.le_of_ble_eq_true rfl) dX4_reminder_3 ⟨by decide, by decide⟩ (fun E hx => zz_xn hx) (fun q1 q1r => ?_)
  obtain ⟨q1a, q1b⟩ := id q1r
  refine gd_callVR (As := [zz_v (if 0 ≤ x ∧ x ≤ S 77 17 - 1 then 1 else 0)]) (rest := []) hC hF (fun hR => c_X4_asks l hl9 N0 G Y a (S) (if 0 ≤ x ∧ x ≤ S 77 17 - 1 then 1 else 0) (by omega)) (cwV 1 hts gX4_reminder_X4_asks rfl rfl rfl (by decide +kernel) ⟨by decide, by decide⟩) rfl (by decide) (ci := 4) rfl rfl rfl rfl (Nat.le_of_ble_eq_true rfl) dX4_reminder_6 ⟨by decide, by decide⟩ (fun E hx => zz_xn hx) (fun q2 q2r => ?_)
  obtain ⟨q2a, q2b⟩ := id q2r
  refine gd_if_ne hC dX4_reminder_9 (tgt := 14) (by decide) ⟨by omega, by omega⟩ (fun c3 => ?_) (fun c3 => ?_)
  · skip
    refine gd_eq (S' := zz_u (S) (77) (26) (0)) (by rw [if_neg (by omega)]) ?_
    have hiab_ := iab x.toNat (by omega)
    have hiak_ := iak x.toNat (by omega)
    have hiod_ := iod x.toNat (by omega)
    refine gd_aload_n hC dX4_reminder_14 rfl (j := 0) rfl ?_
    refine gd_iload_n hC dX4_reminder_15 rfl (j := 1) rfl ?_
    refine gd_callVR (As := [zz_v x]) (rest := []) hC hF (fun hR => c_X4_isOwed l hl9 N0 G Y a (zz_u (S) (77) (26) (0)) x x.toNat (by omega) (by omega)) (cwV 1 hts gX4_reminder_X4_isOwed rfl rfl rfl (by decide +kernel) ⟨by decide, by decide⟩) rfl (by decide) (ci := 4) rfl rfl rfl rfl (Nat.le_of_ble_eq_true rfl) dX4_reminder_16 ⟨by decide, by decide⟩ (fun E hx => zz_xn hx) (fun q4 q4r => ?_)
    obtain ⟨q4a, q4b⟩ := id q4r
    refine gd_top (y := zz_mow (S 95) (S 96) x.toNat) rfl ?_
    have q4n : zz_R (zz_mow (S 95) (S 96) x.toNat) := q4r
    obtain ⟨q4na, q4nb⟩ := id q4n
    have q4F : zz_mow (S 95) (S 96) x.toNat = 0 ∨ zz_mow (S 95) (S 96) x.toNat = 1 := q4
    refine gd_if_ne hC dX4_reminder_19 (tgt := 24) (by decide) ⟨by omega, by omega⟩ (fun c5 => ?_) (fun c5 => ?_)
    · skip
      refine gd_aload_n hC dX4_reminder_24 rfl (j := 0) rfl ?_
      refine gd_getR hC w4 hK (ci := 4) rfl (by decide) rfl 8 (by decide) (j := 82) rfl f23 rfl dX4_reminder_25 ?_
      refine gd_aload_n hC dX4_reminder_28 rfl (j := 0) rfl ?_
      refine gd_getR hC w4 hK (ci := 4) rfl (by decide) rfl 18 (by decide) (j := 91) rfl f51 rfl dX4_reminder_29 ?_
      refine gd_iload_n hC dX4_reminder_32 rfl (j := 1) rfl ?_
      refine gd_iald hC hK (j := x.toNat) rfl (by decide) (by omega) (by omega) (by decide) dX4_reminder_33 (fun r6 => ?_)
      obtain ⟨r6a, r6b⟩ := id r6
      refine gd_top (y := S 91 x.toNat) (zz_u_ne _ _ (by omega)) ?_
      rw [(zz_u_ne _ _ (by omega) : (zz_u (S) (77) (26) (0)) (91) (x.toNat) = S 91 x.toNat)] at r6a r6b
      refine gd_iald hC hK (j := (S 91 x.toNat).toNat) rfl (by decide) (by omega) (by omega) (by decide) dX4_reminder_34 (fun r7 => ?_)
      obtain ⟨r7a, r7b⟩ := id r7
      refine gd_top (y := S 82 ((S 91 x.toNat).toNat)) (zz_u_ne _ _ (by omega)) ?_
      rw [(zz_u_ne _ _ (by omega) : (zz_u (S) (77) (26) (0)) (82) ((S 91 x.toNat).toNat) = S 82 ((S 91 x.toNat).toNat))] at r7a r7b
      have hwh := iwh (S 91 x.toNat).toNat (by omega)
      refine gd_istore_n hC dX4_reminder_35 rfl (by decide) (lv' := [(2, zz_v (S 82 ((S 91 x.toNat).toNat))), (0, .ref (a 77)), (1, zz_v x)]) rfl ?_
      refine gd_aload_n hC dX4_reminder_36 rfl (j := 1) rfl ?_
      refine gd_getI hC w4 hK (ci := 4) rfl (by decide) rfl 0 (by decide) rfl f107 rfl dX4_reminder_37 (fun r8 => ?_)
      obtain ⟨r8a, r8b⟩ := id r8
      refine gd_top (y := S 77 0) (zz_u_ne _ _ (by omega)) ?_
      rw [(zz_u_ne _ _ (by omega) : (zz_u (S) (77) (26) (0)) (77) (0) = S 77 0)] at r8a r8b
      refine gd_aload_n hC dX4_reminder_40 rfl (j := 1) rfl ?_
      refine gd_getR hC w4 hK (ci := 4) rfl (by decide) rfl 22 (by decide) (j := 95) rfl f63 rfl dX4_reminder_41 ?_
      refine gd_iload_n hC dX4_reminder_44 rfl (j := 2) rfl ?_
      refine gd_iald hC hK (j := x.toNat) rfl (by decide) (by omega) (by omega) (by decide) dX4_reminder_45 (fun r9 => ?_)
      obtain ⟨r9a, r9b⟩ := id r9
      refine gd_top (y := S 95 x.toNat) (zz_u_ne _ _ (by omega)) ?_
      rw [(zz_u_ne _ _ (by omega) : (zz_u (S) (77) (26) (0)) (95) (x.toNat) = S 95 x.toNat)] at r9a r9b
      refine gd_isub hC dX4_reminder_46 ?_
      refine gd_bipush hC dX4_reminder_47 rfl ?_
      refine gd_idiv hC dX4_reminder_49 ⟨by omega, by omega⟩ ⟨by omega, by omega⟩ ?_
      obtain ⟨n, hn⟩ : ∃ n : Int, n = (S 77 0 - S 95 x.toNat) / 10 := ⟨_, rfl⟩
      have hnr : 0 ≤ n ∧ n ≤ 501 := by omega
      refine gd_top (y := n) hn.symm ?_
      refine gd_istore_n hC dX4_reminder_50 rfl (by decide) (lv' := [(3, zz_v n), (2, zz_v (S 82 ((S 91 x.toNat).toNat))), (0, .ref (a 77)), (1, zz_v x)]) rfl ?_
      refine gd_iconst hC dX4_reminder_51 ?_
      refine gd_istore hC dX4_reminder_52 (by decide) (lv' := [(4, zz_v 0), (3, zz_v n), (2, zz_v (S 82 ((S 91 x.toNat).toNat))), (0, .ref (a 77)), (1, zz_v x)]) rfl ?_
      refine gd_sub [3, 2, 1, 0] (lv' := [(0, .ref (a 77)), (2, zz_v (S 82 ((S 91 x.toNat).toNat))), (3, zz_v n), (4, zz_v 0)]) rfl ?_
      refine gd_loop (σ := Nat × Int) (μ := fun vz => vz.1) (I := fun vz => ((vz.1 : Int) ≤ n) ∧ (0 ≤ vz.2 ∧ vz.2 ≤ 9) ∧ (zz_mcl (S 79) n.toNat (S 82 (S 91 x.toNat).toNat) = zz_mcl (S 79) vz.1 vz.2)) (Sf := fun vz => zz_u (S) (77) (26) (0)) (lf := fun vz => [(0, .ref (a 77)), (2, zz_v vz.2), (3, zz_v n), (4, zz_v (n - (vz.1 : Int)))]) (n.toNat, (S 82 (S 91 x.toNat).toNat)) (⟨by omega, by omega, rfl⟩) rfl (by rw [show n - ((n.toNat : Nat) : Int) = 0 by omega]) (fun ⟨m, o⟩ hI ih54 => ?_)
      obtain ⟨hI0, hI1, hI2⟩ : ((m : Int) ≤ n) ∧ (0 ≤ o ∧ o ≤ 9) ∧ (zz_mcl (S 79) n.toNat (S 82 (S 91 x.toNat).toNat) = zz_mcl (S 79) m o) := hI
      refine gd_lveq (lv' := [(0, .ref (a 77)), (2, zz_v o), (3, zz_v n), (4, zz_v (n - (m : Int)))]) rfl ?_
      refine gd_eq (S' := zz_u (S) (77) (26) (0)) rfl ?_
      have hrr := iav o.toNat (by omega)
      refine gd_iload hC dX4_reminder_54 (j := 3) rfl ?_
      refine gd_iload_n hC dX4_reminder_56 rfl (j := 2) rfl ?_
      refine gd_icmp_ge hC dX4_reminder_57 (tgt := 83) (by decide) ⟨by omega, by omega⟩ ⟨by omega, by omega⟩ (fun c10 => ?_) (fun c10 => ?_)
      · skip
        refine gd_iload_n hC dX4_reminder_83 rfl (j := 1) rfl ?_
        have hz5 : zz_mcl (S 79) m o = o := by first | exact zz_mcl_stop (by omega) | (rw [show m = 0 by omega]; rfl)
        exact gd_ireturn hC hr rfl hlk dX4_reminder_84 (by decide) ⟨_, ⟨by omega, by omega⟩, rfl, (z2 (by omega)).2.symm, (by rw [(z2 (by omega)).1, ← hn, hI2, hz5]), trivial⟩
      · skip
        refine gd_aload_n hC dX4_reminder_60 rfl (j := 0) rfl ?_
        refine gd_getR hC w4 hK (ci := 4) rfl (by decide) rfl 4 (by decide) (j := 79) rfl f13 rfl dX4_reminder_61 ?_
        refine gd_iload_n hC dX4_reminder_64 rfl (j := 1) rfl ?_
        refine gd_iald hC hK (j := o.toNat) rfl (by decide) (by omega) (by omega) (by decide) dX4_reminder_65 (fun r11 => ?_)
        obtain ⟨r11a, r11b⟩ := id r11
        refine gd_top (y := S 79 o.toNat) (zz_u_ne _ _ (by omega)) ?_
        rw [(zz_u_ne _ _ (by omega) : (zz_u (S) (77) (26) (0)) (79) (o.toNat) = S 79 o.toNat)] at r11a r11b
        refine gd_iconst hC dX4_reminder_66 ?_
        refine gd_icmp_eq hC dX4_reminder_67 (tgt := 83) (by decide) ⟨by omega, by omega⟩ ⟨by decide, by decide⟩ (fun c12 => ?_) (fun c12 => ?_)
        · skip
          refine gd_iload_n hC dX4_reminder_83 rfl (j := 1) rfl ?_
          have hz5 : zz_mcl (S 79) m o = o := by first | exact zz_mcl_stop (by omega) | (rw [show m = 0 by omega]; rfl)
          exact gd_ireturn hC hr rfl hlk dX4_reminder_84 (by decide) ⟨_, ⟨by omega, by omega⟩, rfl, (z2 (by omega)).2.symm, (by rw [(z2 (by omega)).1, ← hn, hI2, hz5]), trivial⟩
        · skip
          refine gd_aload_n hC dX4_reminder_70 rfl (j := 0) rfl ?_
          refine gd_getR hC w4 hK (ci := 4) rfl (by decide) rfl 4 (by decide) (j := 79) rfl f13 rfl dX4_reminder_71 ?_
          refine gd_iload_n hC dX4_reminder_74 rfl (j := 1) rfl ?_
          refine gd_iald hC hK (j := o.toNat) rfl (by decide) (by omega) (by omega) (by decide) dX4_reminder_75 (fun r13 => ?_)
          obtain ⟨r13a, r13b⟩ := id r13
          refine gd_top (y := S 79 o.toNat) (zz_u_ne _ _ (by omega)) ?_
          rw [(zz_u_ne _ _ (by omega) : (zz_u (S) (77) (26) (0)) (79) (o.toNat) = S 79 o.toNat)] at r13a r13b
          refine gd_istore_n hC dX4_reminder_76 rfl (by decide) (lv' := [(2, zz_v (S 79 o.toNat)), (0, .ref (a 77)), (3, zz_v n), (4, zz_v (n - (m : Int)))]) rfl ?_
          refine gd_iinc hC dX4_reminder_77 (j := 3) rfl (y := n - (m : Int) + 1) (by omega) (by decide) (lv' := [(4, zz_v (n - (m : Int) + 1)), (2, zz_v (S 79 o.toNat)), (0, .ref (a 77)), (3, zz_v n)]) rfl ?_
          refine gd_goto hC dX4_reminder_80 (tgt := 54) (by decide) ?_
          refine gd_sub [2, 1, 3, 0] (lv' := [(0, .ref (a 77)), (2, zz_v (S 79 o.toNat)), (3, zz_v n), (4, zz_v (n - (m : Int) + 1))]) rfl ?_
          refine gd_lveq (lv' := [(0, .ref (a 77)), (2, zz_v (S 79 o.toNat)), (3, zz_v n), (4, zz_v (n - (((m - 1) : Nat) : Int)))]) (by rw [show n - (m : Int) + 1 = n - ((m - 1 : Nat) : Int) by omega]) ?_
          exact ih54 ((m - 1), (S 79 o.toNat)) ⟨by omega, by omega, by rw [hI2]; obtain ⟨q, rfl⟩ : ∃ q, m = q + 1 := ⟨m - 1, by omega⟩; rw [zz_mcl, if_neg (by omega)]; rfl⟩ (show (m - 1) < m by omega)
    · skip
      refine gd_iconst hC dX4_reminder_22 ?_
      exact gd_ireturn hC hr rfl hlk dX4_reminder_23 (by decide) ⟨_, ⟨by decide, by decide⟩, rfl, (z1 (by omega)).2.symm, (z1 (by omega)).1.symm, trivial⟩
  · skip
    refine gd_eq (S' := zz_u (S) (77) (26) (1)) (by rw [if_pos (by omega)]) ?_
    refine gd_iconst hC dX4_reminder_12 ?_
    exact gd_ireturn hC hr rfl hlk dX4_reminder_13 (by decide) ⟨_, ⟨by decide, by decide⟩, rfl, (z0 (by omega)).2.symm, (z0 (by omega)).1.symm, trivial⟩

abbrev rm_X4_fault : Room := { frames := 4, cells := 0, slots := 0, locals := 90 }
set_option maxHeartbeats 4000000 in
set_option maxRecDepth 100000 in
theorem c_X4_fault (l : Launch) (hl9 : l.stackTraces = false) (N0 : Nat) (G : zz_G) (Y : zz_Y) (a : Nat → Nat) (S : zz_S) (x : Int) (hx : zz_R x) (hI : zz_IM S) (e1 : Int) (S1 : zz_S) (z0 : ¬ (0 ≤ x ∧ x ≤ S 77 7 - 1) → e1 = 0 ∧ S1 = zz_u (S) 77 26 1) (z1 : (0 ≤ x ∧ x ≤ S 77 7 - 1) → e1 = zz_mft (S 85) (S 81) (S 83) (S 84) (S 82) (S 77 7).toNat x.toNat ∧ S1 = (zz_u S 77 26 0)) : CtR l yX4_fault wsX4_fault rm_X4_fault 0 [.ref (a 77), zz_v x] N0 G Y a S (e1) (S1) (True) (False) (False) (False) := by
  refine Ct_.of (cc := cX4_fault) (maxL := 2) (ret := (some .int)) (by decide) rfl (Nat.le_of_ble_eq_true rfl) ?_
  intro p e s m args below meth c hC hts hr hlk hex hF
  have hK := hF.2.1
  refine gd_lveq (lv' := [(0, .ref (a 77)), (1, zz_v x)]) rfl ?_
  obtain ⟨imd, iml, imo, ima, imc, iaf, ilm, iwh, ikd, itd, ims, ihm, ict, iwv, ipl, iab, ist, ilf, ipe, iak, ian, ihe, ifn, iav, iod⟩ := id hI
  obtain ⟨hx1, hx2⟩ := id hx
  refine gd_aload_n hC dX4_fault_0 rfl (j := 0) rfl ?_
  refine gd_aload_n hC dX4_fault_1 rfl (j := 0) rfl ?_
  refine gd_iload_n hC dX4_fault_2 rfl (j := 1) rfl ?_
  refine gd_callVR (As := [zz_v x]) (rest := [.ref (a 77)]) hC hF (fun hR => c_X4_isAct l hl9 N0 G Y a (S) x ⟨by omega, by omega⟩ (by omega)) (cwV 1 hts gX4_fault_X4_isAct rfl rfl rfl (by decide +kernel) ⟨by decide, by decide⟩) rfl (by decide) (ci := 4) rfl rfl rfl rfl (Nat.le_of_ble_eq_true rfl) dX4_fault_3 ⟨by decide, by decide⟩ (fun E hx => zz_xn hx) (fun q1 q1r => ?_)
  obtain ⟨q1a, q1b⟩ := id q1r
  refine gd_callVR (As := [zz_v (if 0 ≤ x ∧ x ≤ S 77 7 - 1 then 1 else 0)]) (rest := []) hC hF (fun hR => c_X4_asks l hl9 N0 G Y a (S) (if 0 ≤ x ∧ x ≤ S 77 7 - 1 then 1 else 0) (by omega)) (cwV 1 hts gX4_fault_X4_asks rfl rfl rfl (by decide +kernel) ⟨by decide, by decide⟩) rfl (by decide) (ci := 4) rfl rfl rfl rfl (Nat.le_of_ble_eq_true rfl) dX4_fault_6 ⟨by decide, by decide⟩ (fun E hx => zz_xn hx) (fun q2 q2r => ?_)
  obtain ⟨q2a, q2b⟩ := id q2r
  refine gd_if_eq hC dX4_fault_9 (tgt := 20) (by decide) ⟨by omega, by omega⟩ (fun c3 => ?_) (fun c3 => ?_)
  · skip
    refine gd_eq (S' := zz_u (S) (77) (26) (1)) (by rw [if_pos (by omega)]) ?_
    refine gd_iconst hC dX4_fault_20 ?_
    exact gd_ireturn hC hr rfl hlk dX4_fault_21 (by decide) ⟨_, ⟨by decide, by decide⟩, rfl, (z0 (by omega)).2.symm, (z0 (by omega)).1.symm, trivial⟩
  · skip
    refine gd_eq (S' := zz_u (S) (77) (26) (0)) (by rw [if_neg (by omega)]) ?_
    refine gd_aload_n hC dX4_fault_12 rfl (j := 0) rfl ?_
    refine gd_iload_n hC dX4_fault_13 rfl (j := 1) rfl ?_
    refine gd_callVR (As := [zz_v x]) (rest := []) hC hF (fun hR => c_X4_faultOf l hl9 N0 G Y a (zz_u (S) (77) (26) (0)) x x.toNat (by omega) (by omega) ima ims ikd itd) (cwV 1 hts gX4_fault_X4_faultOf rfl rfl rfl (by decide +kernel) ⟨by decide, by decide⟩) rfl (by decide) (ci := 4) rfl rfl rfl rfl (Nat.le_of_ble_eq_true rfl) dX4_fault_14 ⟨by decide, by decide⟩ (fun E hx => zz_xn hx) (fun q4 q4r => ?_)
    obtain ⟨q4a, q4b⟩ := id q4r
    refine gd_top (y := zz_mft (S 85) (S 81) (S 83) (S 84) (S 82) (S 77 7).toNat x.toNat) rfl ?_
    have q4n : zz_R (zz_mft (S 85) (S 81) (S 83) (S 84) (S 82) (S 77 7).toNat x.toNat) := q4r
    obtain ⟨q4na, q4nb⟩ := id q4n
    have q4F : 0 ≤ zz_mft (S 85) (S 81) (S 83) (S 84) (S 82) (S 77 7).toNat x.toNat ∧ zz_mft (S 85) (S 81) (S 83) (S 84) (S 82) (S 77 7).toNat x.toNat ≤ 3 := q4
    refine gd_goto hC dX4_fault_17 (tgt := 21) (by decide) ?_
    exact gd_ireturn hC hr rfl hlk dX4_fault_21 (by decide) ⟨_, ⟨by omega, by omega⟩, rfl, (z1 (by omega)).2.symm, (z1 (by omega)).1.symm, trivial⟩

abbrev rm_X4_likes : Room := { frames := 2, cells := 0, slots := 0, locals := 45 }
set_option maxHeartbeats 4000000 in
set_option maxRecDepth 100000 in
theorem c_X4_likes (l : Launch) (hl9 : l.stackTraces = false) (N0 : Nat) (G : zz_G) (Y : zz_Y) (a : Nat → Nat) (S : zz_S) (x : Int) (hx : zz_R x) (hI : zz_IM S) (e1 : Int) (S1 : zz_S) (z0 : ¬ (0 ≤ x ∧ x ≤ S 77 7 - 1) → e1 = 0 ∧ S1 = zz_u (S) 77 26 1) (z1 : (0 ≤ x ∧ x ≤ S 77 7 - 1) → e1 = zz_mln (S 83) (S 82) x.toNat (S 77 7).toNat ∧ S1 = (zz_u S 77 26 0)) : CtR l yX4_likes wsX4_likes rm_X4_likes 0 [.ref (a 77), zz_v x] N0 G Y a S (e1) (S1) (True) (False) (False) (False) := by
  refine Ct_.of (cc := cX4_likes) (maxL := 2) (ret := (some .int)) (by decide) rfl (Nat.le_of_ble_eq_true rfl) ?_
  intro p e s m args below meth c hC hts hr hlk hex hF
  have hK := hF.2.1
  refine gd_lveq (lv' := [(0, .ref (a 77)), (1, zz_v x)]) rfl ?_
  obtain ⟨imd, iml, imo, ima, imc, iaf, ilm, iwh, ikd, itd, ims, ihm, ict, iwv, ipl, iab, ist, ilf, ipe, iak, ian, ihe, ifn, iav, iod⟩ := id hI
  obtain ⟨hx1, hx2⟩ := id hx
  refine gd_aload_n hC dX4_likes_0 rfl (j := 0) rfl ?_
  refine gd_aload_n hC dX4_likes_1 rfl (j := 0) rfl ?_
  refine gd_iload_n hC dX4_likes_2 rfl (j := 1) rfl ?_
  refine gd_callVR (As := [zz_v x]) (rest := [.ref (a 77)]) hC hF (fun hR => c_X4_isAct l hl9 N0 G Y a (S) x ⟨by omega, by omega⟩ (by omega)) (cwV 1 hts gX4_likes_X4_isAct rfl rfl rfl (by decide +kernel) ⟨by decide, by decide⟩) rfl (by decide) (ci := 4) rfl rfl rfl rfl (Nat.le_of_ble_eq_true rfl) dX4_likes_3 ⟨by decide, by decide⟩ (fun E hx => zz_xn hx) (fun q1 q1r => ?_)
  obtain ⟨q1a, q1b⟩ := id q1r
  refine gd_callVR (As := [zz_v (if 0 ≤ x ∧ x ≤ S 77 7 - 1 then 1 else 0)]) (rest := []) hC hF (fun hR => c_X4_asks l hl9 N0 G Y a (S) (if 0 ≤ x ∧ x ≤ S 77 7 - 1 then 1 else 0) (by omega)) (cwV 1 hts gX4_likes_X4_asks rfl rfl rfl (by decide +kernel) ⟨by decide, by decide⟩) rfl (by decide) (ci := 4) rfl rfl rfl rfl (Nat.le_of_ble_eq_true rfl) dX4_likes_6 ⟨by decide, by decide⟩ (fun E hx => zz_xn hx) (fun q2 q2r => ?_)
  obtain ⟨q2a, q2b⟩ := id q2r
  refine gd_if_eq hC dX4_likes_9 (tgt := 20) (by decide) ⟨by omega, by omega⟩ (fun c3 => ?_) (fun c3 => ?_)
  · skip
    refine gd_eq (S' := zz_u (S) (77) (26) (1)) (by rw [if_pos (by omega)]) ?_
    refine gd_iconst hC dX4_likes_20 ?_
    exact gd_ireturn hC hr rfl hlk dX4_likes_21 (by decide) ⟨_, ⟨by decide, by decide⟩, rfl, (z0 (by omega)).2.symm, (z0 (by omega)).1.symm, trivial⟩
  · skip
    refine gd_eq (S' := zz_u (S) (77) (26) (0)) (by rw [if_neg (by omega)]) ?_
    refine gd_aload_n hC dX4_likes_12 rfl (j := 0) rfl ?_
    refine gd_iload_n hC dX4_likes_13 rfl (j := 1) rfl ?_
    refine gd_callVR (As := [zz_v x]) (rest := []) hC hF (fun hR => c_X4_likesOf l hl9 N0 G Y a (zz_u (S) (77) (26) (0)) x x.toNat (by omega) (by omega) ima) (cwV 1 hts gX4_likes_X4_likesOf rfl rfl rfl (by decide +kernel) ⟨by decide, by decide⟩) rfl (by decide) (ci := 4) rfl rfl rfl rfl (Nat.le_of_ble_eq_true rfl) dX4_likes_14 ⟨by decide, by decide⟩ (fun E hx => zz_xn hx) (fun q4 q4r => ?_)
    obtain ⟨q4a, q4b⟩ := id q4r
    refine gd_top (y := zz_mln (S 83) (S 82) x.toNat (S 77 7).toNat) rfl ?_
    have q4n : zz_R (zz_mln (S 83) (S 82) x.toNat (S 77 7).toNat) := q4r
    obtain ⟨q4na, q4nb⟩ := id q4n
    refine gd_goto hC dX4_likes_17 (tgt := 21) (by decide) ?_
    exact gd_ireturn hC hr rfl hlk dX4_likes_21 (by decide) ⟨_, ⟨by omega, by omega⟩, rfl, (z1 (by omega)).2.symm, (z1 (by omega)).1.symm, trivial⟩

abbrev rm_X4_remedied : Room := { frames := 2, cells := 0, slots := 0, locals := 43 }
set_option maxHeartbeats 4000000 in
set_option maxRecDepth 100000 in
theorem c_X4_remedied (l : Launch) (hl9 : l.stackTraces = false) (N0 : Nat) (G : zz_G) (Y : zz_Y) (a : Nat → Nat) (S : zz_S) (x : Int) (hx : zz_R x) (hI : zz_IM S) (e1 : Int) (S1 : zz_S) (z0 : ¬ (0 ≤ x ∧ x ≤ S 77 7 - 1) → e1 = 0 ∧ S1 = zz_u (S) 77 26 1) (z1 : (0 ≤ x ∧ x ≤ S 77 7 - 1) → e1 = S 89 x.toNat ∧ S1 = (zz_u S 77 26 0)) : CtR l yX4_remedied wsX4_remedied rm_X4_remedied 0 [.ref (a 77), zz_v x] N0 G Y a S (e1) (S1) (True) (False) (False) (False) := by
  refine Ct_.of (cc := cX4_remedied) (maxL := 2) (ret := (some .int)) (by decide) rfl (Nat.le_of_ble_eq_true rfl) ?_
  intro p e s m args below meth c hC hts hr hlk hex hF
  have hK := hF.2.1
  have w4 : ∀ w ∈ u_ws RX4 TX4 27, w.before args s = true := fun w h => hts w (List.mem_cons_of_mem _ (List.mem_append_right _ h))
  have f45 : (Cond.fieldLink RX4 45 "GrievancehallModel" "remedy" "[I").before args s = true := hts _ (by decide +kernel)
  refine gd_lveq (lv' := [(0, .ref (a 77)), (1, zz_v x)]) rfl ?_
  obtain ⟨imd, iml, imo, ima, imc, iaf, ilm, iwh, ikd, itd, ims, ihm, ict, iwv, ipl, iab, ist, ilf, ipe, iak, ian, ihe, ifn, iav, iod⟩ := id hI
  obtain ⟨hx1, hx2⟩ := id hx
  refine gd_aload_n hC dX4_remedied_0 rfl (j := 0) rfl ?_
  refine gd_aload_n hC dX4_remedied_1 rfl (j := 0) rfl ?_
  refine gd_iload_n hC dX4_remedied_2 rfl (j := 1) rfl ?_
  refine gd_callVR (As := [zz_v x]) (rest := [.ref (a 77)]) hC hF (fun hR => c_X4_isAct l hl9 N0 G Y a (S) x ⟨by omega, by omega⟩ (by omega)) (cwV 1 hts gX4_remedied_X4_isAct rfl rfl rfl (by decide +kernel) ⟨by decide, by decide⟩) rfl (by decide) (ci := 4) rfl rfl rfl rfl (Nat.le_of_ble_eq_true rfl) dX4_remedied_3 ⟨by decide, by decide⟩ (fun E hx => zz_xn hx) (fun q1 q1r => ?_)
  obtain ⟨q1a, q1b⟩ := id q1r
  refine gd_callVR (As := [zz_v (if 0 ≤ x ∧ x ≤ S 77 7 - 1 then 1 else 0)]) (rest := []) hC hF (fun hR => c_X4_asks l hl9 N0 G Y a (S) (if 0 ≤ x ∧ x ≤ S 77 7 - 1 then 1 else 0) (by omega)) (cwV 1 hts gX4_remedied_X4_asks rfl rfl rfl (by decide +kernel) ⟨by decide, by decide⟩) rfl (by decide) (ci := 4) rfl rfl rfl rfl (Nat.le_of_ble_eq_true rfl) dX4_remedied_6 ⟨by decide, by decide⟩ (fun E hx => zz_xn hx) (fun q2 q2r => ?_)
  obtain ⟨q2a, q2b⟩ := id q2r
  refine gd_if_eq hC dX4_remedied_9 (tgt := 21) (by decide) ⟨by omega, by omega⟩ (fun c3 => ?_) (fun c3 => ?_)
  · skip
    refine gd_eq (S' := zz_u (S) (77) (26) (1)) (by rw [if_pos (by omega)]) ?_
    refine gd_iconst hC dX4_remedied_21 ?_
    exact gd_ireturn hC hr rfl hlk dX4_remedied_22 (by decide) ⟨_, ⟨by decide, by decide⟩, rfl, (z0 (by omega)).2.symm, (z0 (by omega)).1.symm, trivial⟩
  · skip
    refine gd_eq (S' := zz_u (S) (77) (26) (0)) (by rw [if_neg (by omega)]) ?_
    refine gd_aload_n hC dX4_remedied_12 rfl (j := 0) rfl ?_
    refine gd_getR hC w4 hK (ci := 4) rfl (by decide) rfl 15 (by decide) (j := 89) rfl f45 rfl dX4_remedied_13 ?_
    refine gd_iload_n hC dX4_remedied_16 rfl (j := 1) rfl ?_
    refine gd_iald hC hK (j := x.toNat) rfl (by decide) (by omega) (by omega) (by decide) dX4_remedied_17 (fun r4 => ?_)
    obtain ⟨r4a, r4b⟩ := id r4
    refine gd_top (y := S 89 x.toNat) (zz_u_ne _ _ (by omega)) ?_
    rw [(zz_u_ne _ _ (by omega) : (zz_u (S) (77) (26) (0)) (89) (x.toNat) = S 89 x.toNat)] at r4a r4b
    refine gd_goto hC dX4_remedied_18 (tgt := 22) (by decide) ?_
    exact gd_ireturn hC hr rfl hlk dX4_remedied_22 (by decide) ⟨_, ⟨by omega, by omega⟩, rfl, (z1 (by omega)).2.symm, (z1 (by omega)).1.symm, trivial⟩

abbrev rm_X4_gains : Room := { frames := 2, cells := 0, slots := 0, locals := 42 }
set_option maxHeartbeats 4000000 in
set_option maxRecDepth 100000 in
theorem c_X4_gains (l : Launch) (hl9 : l.stackTraces = false) (N0 : Nat) (G : zz_G) (Y : zz_Y) (a : Nat → Nat) (S : zz_S) (x y : Int) (hx : zz_R x) (hy : zz_R y) (hI : zz_IM S) (e1 : Int) (S1 : zz_S) (z0 : ¬ (0 ≤ x ∧ x ≤ 3) → e1 = 0 ∧ S1 = zz_u (S) 77 26 1) (z1 : (0 ≤ x ∧ x ≤ 3) ∧ ¬ (0 ≤ y ∧ y ≤ 100) → e1 = 0 ∧ S1 = zz_u ((zz_u S 77 26 0)) 77 26 2) (z2 : (0 ≤ x ∧ x ≤ 3) ∧ (0 ≤ y ∧ y ≤ 100) → e1 = zz_mgn (S 85) (S 81) (S 83) (S 84) x y (S 77 7).toNat ∧ S1 = (zz_u S 77 26 0)) : CtR l yX4_gains wsX4_gains rm_X4_gains 0 [.ref (a 77), zz_v x, zz_v y] N0 G Y a S (e1) (S1) (True) (False) (False) (False) := by
  refine Ct_.of (cc := cX4_gains) (maxL := 7) (ret := (some .int)) (by decide) rfl (Nat.le_of_ble_eq_true rfl) ?_
  intro p e s m args below meth c hC hts hr hlk hex hF
  have hK := hF.2.1
  have w4 : ∀ w ∈ u_ws RX4 TX4 27, w.before args s = true := fun w h => hts w (List.mem_cons_of_mem _ (List.mem_append_right _ h))
  have f26 : (Cond.fieldLink RX4 26 "GrievancehallModel" "kind" "[I").before args s = true := hts _ (by decide +kernel)
  have f32 : (Cond.fieldLink RX4 32 "GrievancehallModel" "measure" "[I").before args s = true := hts _ (by decide +kernel)
  have f86 : (Cond.fieldLink RX4 86 "GrievancehallModel" "acts" "I").before args s = true := hts _ (by decide +kernel)
  refine gd_lveq (lv' := [(0, .ref (a 77)), (1, zz_v x), (2, zz_v y)]) rfl ?_
  obtain ⟨imd, iml, imo, ima, imc, iaf, ilm, iwh, ikd, itd, ims, ihm, ict, iwv, ipl, iab, ist, ilf, ipe, iak, ian, ihe, ifn, iav, iod⟩ := id hI
  obtain ⟨hx1, hx2⟩ := id hx
  obtain ⟨hy1, hy2⟩ := id hy
  refine gd_aload_n hC dX4_gains_0 rfl (j := 0) rfl ?_
  refine gd_iload_n hC dX4_gains_1 rfl (j := 1) rfl ?_
  refine gd_callSR (As := [zz_v x]) (rest := [.ref (a 77)]) hC hF (fun hR => c_X4_isKind l hl9 N0 G Y a (S) x ⟨by omega, by omega⟩) (va_cwS 1 hts gX4_gains_X4_isKind rfl rfl rfl (by decide +kernel) ⟨by decide, by decide⟩) rfl rfl (Nat.le_of_ble_eq_true rfl) dX4_gains_2 ⟨by decide, by decide⟩ (fun E hx => zz_xn hx) (fun q1 q1r => ?_)
  obtain ⟨q1a, q1b⟩ := id q1r
  refine gd_callVR (As := [zz_v (if 0 ≤ x ∧ x ≤ 3 then 1 else 0)]) (rest := []) hC hF (fun hR => c_X4_asks l hl9 N0 G Y a (S) (if 0 ≤ x ∧ x ≤ 3 then 1 else 0) (by omega)) (cwV 1 hts gX4_gains_X4_asks rfl rfl rfl (by decide +kernel) ⟨by decide, by decide⟩) rfl (by decide) (ci := 4) rfl rfl rfl rfl (Nat.le_of_ble_eq_true rfl) dX4_gains_5 ⟨by decide, by decide⟩ (fun E hx => zz_xn hx) (fun q2 q2r => ?_)
  obtain ⟨q2a, q2b⟩ := id q2r
  refine gd_if_ne hC dX4_gains_8 (tgt := 13) (by decide) ⟨by omega, by omega⟩ (fun c3 => ?_) (fun c3 => ?_)
  · skip
    refine gd_eq (S' := zz_u (S) (77) (26) (0)) (by rw [if_neg (by omega)]) ?_
    refine gd_iload_n hC dX4_gains_13 rfl (j := 2) rfl ?_
    refine gd_iconst hC dX4_gains_14 ?_
    refine gd_bipush hC dX4_gains_15 rfl ?_
    refine gd_callSR (As := [zz_v y, zz_v 0, zz_v 100]) (rest := []) hC hF (fun hR => c_X4_in l hl9 N0 G Y a (zz_u (S) (77) (26) (0)) y 0 100 ⟨by omega, by omega⟩ ⟨by decide, by decide⟩ ⟨by decide, by decide⟩) (va_cwS 3 hts gX4_gains_X4_in rfl rfl rfl (by decide +kernel) ⟨by decide, by decide⟩) rfl rfl (Nat.le_of_ble_eq_true rfl) dX4_gains_17 ⟨by decide, by decide⟩ (fun E hx => zz_xn hx) (fun q4 q4r => ?_)
    obtain ⟨q4a, q4b⟩ := id q4r
    refine gd_if_ne hC dX4_gains_20 (tgt := 29) (by decide) ⟨by omega, by omega⟩ (fun c5 => ?_) (fun c5 => ?_)
    · skip
      refine gd_iconst hC dX4_gains_29 ?_
      refine gd_istore_n hC dX4_gains_30 rfl (by decide) (lv' := [(3, zz_v 0), (0, .ref (a 77)), (1, zz_v x), (2, zz_v y)]) rfl ?_
      refine gd_iconst hC dX4_gains_31 ?_
      refine gd_istore hC dX4_gains_32 (by decide) (lv' := [(4, zz_v 0), (3, zz_v 0), (0, .ref (a 77)), (1, zz_v x), (2, zz_v y)]) rfl ?_
      refine gd_sub [2, 3, 4, 1, 0] (lv' := [(0, .ref (a 77)), (1, zz_v x), (2, zz_v y), (3, zz_v 0), (4, zz_v 0)]) rfl ?_
      refine gd_loop (σ := Nat) (μ := fun vz => (S 77 7).toNat - vz) (I := fun vz => (vz ≤ (S 77 7).toNat)) (Sf := fun vz => zz_u (S) (77) (26) (0)) (lf := fun vz => [(0, .ref (a 77)), (1, zz_v x), (2, zz_v y), (3, zz_v (zz_mgn (S 85) (S 81) (S 83) (S 84) x y vz)), (4, zz_v (vz : Int))]) 0 (by omega) rfl rfl (fun i hI ih34 => ?_)
      have hI0 : i ≤ (S 77 7).toNat := hI
      refine gd_lveq (lv' := [(0, .ref (a 77)), (1, zz_v x), (2, zz_v y), (3, zz_v (zz_mgn (S 85) (S 81) (S 83) (S 84) x y i)), (4, zz_v (i : Int))]) rfl ?_
      refine gd_eq (S' := zz_u (S) (77) (26) (0)) rfl ?_
      have hgr := zz_mgn_rng (S 85) (S 81) (S 83) (S 84) x y i
      refine gd_iload hC dX4_gains_34 (j := 4) rfl ?_
      refine gd_aload_n hC dX4_gains_36 rfl (j := 0) rfl ?_
      refine gd_getI hC w4 hK (ci := 4) rfl (by decide) rfl 7 (by decide) rfl f86 rfl dX4_gains_37 (fun r6 => ?_)
      obtain ⟨r6a, r6b⟩ := id r6
      refine gd_top (y := S 77 7) (zz_u_ne _ _ (by omega)) ?_
      rw [(zz_u_ne _ _ (by omega) : (zz_u (S) (77) (26) (0)) (77) (7) = S 77 7)] at r6a r6b
      refine gd_icmp_ge hC dX4_gains_40 (tgt := 110) (by decide) ⟨by omega, by omega⟩ ⟨by omega, by omega⟩ (fun c7 => ?_) (fun c7 => ?_)
      · skip
        refine gd_iload_n hC dX4_gains_110 rfl (j := 3) rfl ?_
        have hdn : (S 77 7).toNat = i := by omega
        exact gd_ireturn hC hr rfl hlk dX4_gains_111 (by decide) ⟨_, ⟨by omega, by omega⟩, rfl, (z2 (by omega)).2.symm, (by rw [(z2 (by omega)).1, hdn]), trivial⟩
      · skip
        refine gd_aload_n hC dX4_gains_43 rfl (j := 0) rfl ?_
        refine gd_getR hC w4 hK (ci := 4) rfl (by decide) rfl 11 (by decide) (j := 85) rfl f32 rfl dX4_gains_44 ?_
        refine gd_iload hC dX4_gains_47 (j := 4) rfl ?_
        refine gd_iald hC hK (j := i) rfl (by decide) rfl (by omega) (by decide) dX4_gains_49 (fun r8 => ?_)
        obtain ⟨r8a, r8b⟩ := id r8
        refine gd_top (y := S 85 i) (zz_u_ne _ _ (by omega)) ?_
        rw [(zz_u_ne _ _ (by omega) : (zz_u (S) (77) (26) (0)) (85) (i) = S 85 i)] at r8a r8b
        refine gd_iload_n hC dX4_gains_50 rfl (j := 2) rfl ?_
        refine gd_icmp_le hC dX4_gains_51 (tgt := 58) (by decide) ⟨by omega, by omega⟩ ⟨by omega, by omega⟩ (fun c9 => ?_) (fun c9 => ?_)
        · skip
          refine gd_iconst hC dX4_gains_58 ?_
          refine gd_istore hC dX4_gains_59 (by decide) (lv' := [(5, zz_v 0), (0, .ref (a 77)), (1, zz_v x), (2, zz_v y), (3, zz_v (zz_mgn (S 85) (S 81) (S 83) (S 84) x y i)), (4, zz_v (i : Int))]) rfl ?_
          refine gd_aload_n hC dX4_gains_61 rfl (j := 1) rfl ?_
          refine gd_iload hC dX4_gains_62 (j := 5) rfl ?_
          refine gd_callVR (As := [zz_v (i : Int)]) (rest := []) hC hF (fun hR => c_X4_doesFail l hl9 N0 G Y a (zz_u (S) (77) (26) (0)) (i : Int) i rfl (by omega) ikd itd) (cwV 1 hts gX4_gains_X4_doesFail rfl rfl rfl (by decide +kernel) ⟨by decide, by decide⟩) rfl (by decide) (ci := 4) rfl rfl rfl rfl (Nat.le_of_ble_eq_true rfl) dX4_gains_64 ⟨by decide, by decide⟩ (fun E hx => zz_xn hx) (fun q10 q10r => ?_)
          obtain ⟨q10a, q10b⟩ := id q10r
          refine gd_top (y := zz_mfr (S 85) (S 81) (S 83) (S 84) i) rfl ?_
          have q10n : zz_R (zz_mfr (S 85) (S 81) (S 83) (S 84) i) := q10r
          obtain ⟨q10na, q10nb⟩ := id q10n
          refine gd_istore hC dX4_gains_67 (by decide) (lv' := [(6, zz_v (zz_mfr (S 85) (S 81) (S 83) (S 84) i)), (5, zz_v 0), (0, .ref (a 77)), (1, zz_v x), (2, zz_v y), (3, zz_v (zz_mgn (S 85) (S 81) (S 83) (S 84) x y i)), (4, zz_v (i : Int))]) rfl ?_
          refine gd_iload_n hC dX4_gains_69 rfl (j := 5) rfl ?_
          refine gd_aload_n hC dX4_gains_70 rfl (j := 2) rfl ?_
          refine gd_getR hC w4 hK (ci := 4) rfl (by decide) rfl 9 (by decide) (j := 83) rfl f26 rfl dX4_gains_71 ?_
          refine gd_iload hC dX4_gains_74 (j := 6) rfl ?_
          refine gd_iald hC hK (j := i) rfl (by decide) rfl (by omega) (by decide) dX4_gains_76 (fun r11 => ?_)
          obtain ⟨r11a, r11b⟩ := id r11
          refine gd_top (y := S 83 i) (zz_u_ne _ _ (by omega)) ?_
          rw [(zz_u_ne _ _ (by omega) : (zz_u (S) (77) (26) (0)) (83) (i) = S 83 i)] at r11a r11b
          refine gd_iload_n hC dX4_gains_77 rfl (j := 3) rfl ?_
          refine gd_icmp_ne hC dX4_gains_78 (tgt := 88) (by decide) ⟨by omega, by omega⟩ ⟨by omega, by omega⟩ (fun c12 => ?_) (fun c12 => ?_)
          · skip
            refine gd_iconst hC dX4_gains_88 ?_
            refine gd_goto hC dX4_gains_89 (tgt := 102) (by decide) ?_
            refine gd_iadd hC dX4_gains_102 ?_
            refine gd_istore_n hC dX4_gains_103 rfl (by decide) (lv' := [(3, zz_v ((zz_mgn (S 85) (S 81) (S 83) (S 84) x y i) + 0)), (6, zz_v (zz_mfr (S 85) (S 81) (S 83) (S 84) i)), (5, zz_v 0), (0, .ref (a 77)), (1, zz_v x), (2, zz_v y), (4, zz_v (i : Int))]) rfl ?_
            refine gd_iinc hC dX4_gains_104 (j := 6) rfl (y := ((i + 1 : Nat) : Int)) (by omega) (by decide) (lv' := [(4, zz_v ((i + 1 : Nat) : Int)), (3, zz_v ((zz_mgn (S 85) (S 81) (S 83) (S 84) x y i) + 0)), (6, zz_v (zz_mfr (S 85) (S 81) (S 83) (S 84) i)), (5, zz_v 0), (0, .ref (a 77)), (1, zz_v x), (2, zz_v y)]) rfl ?_
            refine gd_goto hC dX4_gains_107 (tgt := 34) (by decide) ?_
            refine gd_sub [4, 5, 6, 1, 0] (lv' := [(0, .ref (a 77)), (1, zz_v x), (2, zz_v y), (3, zz_v ((zz_mgn (S 85) (S 81) (S 83) (S 84) x y i) + 0)), (4, zz_v ((i + 1 : Nat) : Int))]) rfl ?_
            have hz : (zz_mgn (S 85) (S 81) (S 83) (S 84) x y i) + 0 = zz_mgn (S 85) (S 81) (S 83) (S 84) x y (i + 1) := by rw [zz_mgn]; omega
            refine gd_lveq (lv' := [(0, .ref (a 77)), (1, zz_v x), (2, zz_v y), (3, zz_v (zz_mgn (S 85) (S 81) (S 83) (S 84) x y (i + 1))), (4, zz_v (((i + 1) : Nat) : Int))]) (by rw [hz]) ?_
            exact ih34 (i + 1) (by omega) (show (S 77 7).toNat - (i + 1) < (S 77 7).toNat - i by omega)
          · skip
            refine gd_iload hC dX4_gains_81 (j := 1) rfl ?_
            refine gd_iload hC dX4_gains_83 (j := 0) rfl ?_
            refine gd_icmp_ne hC dX4_gains_85 (tgt := 92) (by decide) ⟨by decide, by decide⟩ ⟨by omega, by omega⟩ (fun c13 => ?_) (fun c13 => ?_)
            · skip
              refine gd_iload hC dX4_gains_92 (j := 1) rfl ?_
              refine gd_if_eq hC dX4_gains_94 (tgt := 101) (by decide) ⟨by decide, by decide⟩ (fun c14 => ?_) (fun c14 => (by omega))
              refine gd_iconst hC dX4_gains_101 ?_
              refine gd_iadd hC dX4_gains_102 ?_
              refine gd_istore_n hC dX4_gains_103 rfl (by decide) (lv' := [(3, zz_v ((zz_mgn (S 85) (S 81) (S 83) (S 84) x y i) + (-1))), (6, zz_v (zz_mfr (S 85) (S 81) (S 83) (S 84) i)), (5, zz_v 0), (0, .ref (a 77)), (1, zz_v x), (2, zz_v y), (4, zz_v (i : Int))]) rfl ?_
              refine gd_iinc hC dX4_gains_104 (j := 6) rfl (y := ((i + 1 : Nat) : Int)) (by omega) (by decide) (lv' := [(4, zz_v ((i + 1 : Nat) : Int)), (3, zz_v ((zz_mgn (S 85) (S 81) (S 83) (S 84) x y i) + (-1))), (6, zz_v (zz_mfr (S 85) (S 81) (S 83) (S 84) i)), (5, zz_v 0), (0, .ref (a 77)), (1, zz_v x), (2, zz_v y)]) rfl ?_
              refine gd_goto hC dX4_gains_107 (tgt := 34) (by decide) ?_
              refine gd_sub [4, 5, 6, 1, 0] (lv' := [(0, .ref (a 77)), (1, zz_v x), (2, zz_v y), (3, zz_v ((zz_mgn (S 85) (S 81) (S 83) (S 84) x y i) + (-1))), (4, zz_v ((i + 1 : Nat) : Int))]) rfl ?_
              have hz : (zz_mgn (S 85) (S 81) (S 83) (S 84) x y i) + (-1) = zz_mgn (S 85) (S 81) (S 83) (S 84) x y (i + 1) := by rw [zz_mgn]; omega
              refine gd_lveq (lv' := [(0, .ref (a 77)), (1, zz_v x), (2, zz_v y), (3, zz_v (zz_mgn (S 85) (S 81) (S 83) (S 84) x y (i + 1))), (4, zz_v (((i + 1) : Nat) : Int))]) (by rw [hz]) ?_
              exact ih34 (i + 1) (by omega) (show (S 77 7).toNat - (i + 1) < (S 77 7).toNat - i by omega)
            · skip
              refine gd_iconst hC dX4_gains_88 ?_
              refine gd_goto hC dX4_gains_89 (tgt := 102) (by decide) ?_
              refine gd_iadd hC dX4_gains_102 ?_
              refine gd_istore_n hC dX4_gains_103 rfl (by decide) (lv' := [(3, zz_v ((zz_mgn (S 85) (S 81) (S 83) (S 84) x y i) + 0)), (6, zz_v (zz_mfr (S 85) (S 81) (S 83) (S 84) i)), (5, zz_v 0), (0, .ref (a 77)), (1, zz_v x), (2, zz_v y), (4, zz_v (i : Int))]) rfl ?_
              refine gd_iinc hC dX4_gains_104 (j := 6) rfl (y := ((i + 1 : Nat) : Int)) (by omega) (by decide) (lv' := [(4, zz_v ((i + 1 : Nat) : Int)), (3, zz_v ((zz_mgn (S 85) (S 81) (S 83) (S 84) x y i) + 0)), (6, zz_v (zz_mfr (S 85) (S 81) (S 83) (S 84) i)), (5, zz_v 0), (0, .ref (a 77)), (1, zz_v x), (2, zz_v y)]) rfl ?_
              refine gd_goto hC dX4_gains_107 (tgt := 34) (by decide) ?_
              refine gd_sub [4, 5, 6, 1, 0] (lv' := [(0, .ref (a 77)), (1, zz_v x), (2, zz_v y), (3, zz_v ((zz_mgn (S 85) (S 81) (S 83) (S 84) x y i) + 0)), (4, zz_v ((i + 1 : Nat) : Int))]) rfl ?_
              have hz : (zz_mgn (S 85) (S 81) (S 83) (S 84) x y i) + 0 = zz_mgn (S 85) (S 81) (S 83) (S 84) x y (i + 1) := by rw [zz_mgn]; omega
              refine gd_lveq (lv' := [(0, .ref (a 77)), (1, zz_v x), (2, zz_v y), (3, zz_v (zz_mgn (S 85) (S 81) (S 83) (S 84) x y (i + 1))), (4, zz_v (((i + 1) : Nat) : Int))]) (by rw [hz]) ?_
              exact ih34 (i + 1) (by omega) (show (S 77 7).toNat - (i + 1) < (S 77 7).toNat - i by omega)
        · skip
          refine gd_iconst hC dX4_gains_54 ?_
          refine gd_goto hC dX4_gains_55 (tgt := 59) (by decide) ?_
          refine gd_istore hC dX4_gains_59 (by decide) (lv' := [(5, zz_v 1), (0, .ref (a 77)), (1, zz_v x), (2, zz_v y), (3, zz_v (zz_mgn (S 85) (S 81) (S 83) (S 84) x y i)), (4, zz_v (i : Int))]) rfl ?_
          refine gd_aload_n hC dX4_gains_61 rfl (j := 1) rfl ?_
          refine gd_iload hC dX4_gains_62 (j := 5) rfl ?_
          refine gd_callVR (As := [zz_v (i : Int)]) (rest := []) hC hF (fun hR => c_X4_doesFail l hl9 N0 G Y a (zz_u (S) (77) (26) (0)) (i : Int) i rfl (by omega) ikd itd) (cwV 1 hts gX4_gains_X4_doesFail rfl rfl rfl (by decide +kernel) ⟨by decide, by decide⟩) rfl (by decide) (ci := 4) rfl rfl rfl rfl (Nat.le_of_ble_eq_true rfl) dX4_gains_64 ⟨by decide, by decide⟩ (fun E hx => zz_xn hx) (fun q15 q15r => ?_)
          obtain ⟨q15a, q15b⟩ := id q15r
          refine gd_top (y := zz_mfr (S 85) (S 81) (S 83) (S 84) i) rfl ?_
          have q15n : zz_R (zz_mfr (S 85) (S 81) (S 83) (S 84) i) := q15r
          obtain ⟨q15na, q15nb⟩ := id q15n
          refine gd_istore hC dX4_gains_67 (by decide) (lv' := [(6, zz_v (zz_mfr (S 85) (S 81) (S 83) (S 84) i)), (5, zz_v 1), (0, .ref (a 77)), (1, zz_v x), (2, zz_v y), (3, zz_v (zz_mgn (S 85) (S 81) (S 83) (S 84) x y i)), (4, zz_v (i : Int))]) rfl ?_
          refine gd_iload_n hC dX4_gains_69 rfl (j := 5) rfl ?_
          refine gd_aload_n hC dX4_gains_70 rfl (j := 2) rfl ?_
          refine gd_getR hC w4 hK (ci := 4) rfl (by decide) rfl 9 (by decide) (j := 83) rfl f26 rfl dX4_gains_71 ?_
          refine gd_iload hC dX4_gains_74 (j := 6) rfl ?_
          refine gd_iald hC hK (j := i) rfl (by decide) rfl (by omega) (by decide) dX4_gains_76 (fun r16 => ?_)
          obtain ⟨r16a, r16b⟩ := id r16
          refine gd_top (y := S 83 i) (zz_u_ne _ _ (by omega)) ?_
          rw [(zz_u_ne _ _ (by omega) : (zz_u (S) (77) (26) (0)) (83) (i) = S 83 i)] at r16a r16b
          refine gd_iload_n hC dX4_gains_77 rfl (j := 3) rfl ?_
          refine gd_icmp_ne hC dX4_gains_78 (tgt := 88) (by decide) ⟨by omega, by omega⟩ ⟨by omega, by omega⟩ (fun c17 => ?_) (fun c17 => ?_)
          · skip
            refine gd_iconst hC dX4_gains_88 ?_
            refine gd_goto hC dX4_gains_89 (tgt := 102) (by decide) ?_
            refine gd_iadd hC dX4_gains_102 ?_
            refine gd_istore_n hC dX4_gains_103 rfl (by decide) (lv' := [(3, zz_v ((zz_mgn (S 85) (S 81) (S 83) (S 84) x y i) + 0)), (6, zz_v (zz_mfr (S 85) (S 81) (S 83) (S 84) i)), (5, zz_v 1), (0, .ref (a 77)), (1, zz_v x), (2, zz_v y), (4, zz_v (i : Int))]) rfl ?_
            refine gd_iinc hC dX4_gains_104 (j := 6) rfl (y := ((i + 1 : Nat) : Int)) (by omega) (by decide) (lv' := [(4, zz_v ((i + 1 : Nat) : Int)), (3, zz_v ((zz_mgn (S 85) (S 81) (S 83) (S 84) x y i) + 0)), (6, zz_v (zz_mfr (S 85) (S 81) (S 83) (S 84) i)), (5, zz_v 1), (0, .ref (a 77)), (1, zz_v x), (2, zz_v y)]) rfl ?_
            refine gd_goto hC dX4_gains_107 (tgt := 34) (by decide) ?_
            refine gd_sub [4, 5, 6, 1, 0] (lv' := [(0, .ref (a 77)), (1, zz_v x), (2, zz_v y), (3, zz_v ((zz_mgn (S 85) (S 81) (S 83) (S 84) x y i) + 0)), (4, zz_v ((i + 1 : Nat) : Int))]) rfl ?_
            have hz : (zz_mgn (S 85) (S 81) (S 83) (S 84) x y i) + 0 = zz_mgn (S 85) (S 81) (S 83) (S 84) x y (i + 1) := by rw [zz_mgn]; omega
            refine gd_lveq (lv' := [(0, .ref (a 77)), (1, zz_v x), (2, zz_v y), (3, zz_v (zz_mgn (S 85) (S 81) (S 83) (S 84) x y (i + 1))), (4, zz_v (((i + 1) : Nat) : Int))]) (by rw [hz]) ?_
            exact ih34 (i + 1) (by omega) (show (S 77 7).toNat - (i + 1) < (S 77 7).toNat - i by omega)
          · skip
            refine gd_iload hC dX4_gains_81 (j := 1) rfl ?_
            refine gd_iload hC dX4_gains_83 (j := 0) rfl ?_
            refine gd_icmp_ne hC dX4_gains_85 (tgt := 92) (by decide) ⟨by decide, by decide⟩ ⟨by omega, by omega⟩ (fun c18 => ?_) (fun c18 => ?_)
            · skip
              refine gd_iload hC dX4_gains_92 (j := 1) rfl ?_
              refine gd_if_eq hC dX4_gains_94 (tgt := 101) (by decide) ⟨by decide, by decide⟩ (fun c19 => (by omega)) (fun c19 => ?_)
              refine gd_iconst hC dX4_gains_97 ?_
              refine gd_goto hC dX4_gains_98 (tgt := 102) (by decide) ?_
              refine gd_iadd hC dX4_gains_102 ?_
              refine gd_istore_n hC dX4_gains_103 rfl (by decide) (lv' := [(3, zz_v ((zz_mgn (S 85) (S 81) (S 83) (S 84) x y i) + 1)), (6, zz_v (zz_mfr (S 85) (S 81) (S 83) (S 84) i)), (5, zz_v 1), (0, .ref (a 77)), (1, zz_v x), (2, zz_v y), (4, zz_v (i : Int))]) rfl ?_
              refine gd_iinc hC dX4_gains_104 (j := 6) rfl (y := ((i + 1 : Nat) : Int)) (by omega) (by decide) (lv' := [(4, zz_v ((i + 1 : Nat) : Int)), (3, zz_v ((zz_mgn (S 85) (S 81) (S 83) (S 84) x y i) + 1)), (6, zz_v (zz_mfr (S 85) (S 81) (S 83) (S 84) i)), (5, zz_v 1), (0, .ref (a 77)), (1, zz_v x), (2, zz_v y)]) rfl ?_
              refine gd_goto hC dX4_gains_107 (tgt := 34) (by decide) ?_
              refine gd_sub [4, 5, 6, 1, 0] (lv' := [(0, .ref (a 77)), (1, zz_v x), (2, zz_v y), (3, zz_v ((zz_mgn (S 85) (S 81) (S 83) (S 84) x y i) + 1)), (4, zz_v ((i + 1 : Nat) : Int))]) rfl ?_
              have hz : (zz_mgn (S 85) (S 81) (S 83) (S 84) x y i) + 1 = zz_mgn (S 85) (S 81) (S 83) (S 84) x y (i + 1) := by rw [zz_mgn]; omega
              refine gd_lveq (lv' := [(0, .ref (a 77)), (1, zz_v x), (2, zz_v y), (3, zz_v (zz_mgn (S 85) (S 81) (S 83) (S 84) x y (i + 1))), (4, zz_v (((i + 1) : Nat) : Int))]) (by rw [hz]) ?_
              exact ih34 (i + 1) (by omega) (show (S 77 7).toNat - (i + 1) < (S 77 7).toNat - i by omega)
            · skip
              refine gd_iconst hC dX4_gains_88 ?_
              refine gd_goto hC dX4_gains_89 (tgt := 102) (by decide) ?_
              refine gd_iadd hC dX4_gains_102 ?_
              refine gd_istore_n hC dX4_gains_103 rfl (by decide) (lv' := [(3, zz_v ((zz_mgn (S 85) (S 81) (S 83) (S 84) x y i) + 0)), (6, zz_v (zz_mfr (S 85) (S 81) (S 83) (S 84) i)), (5, zz_v 1), (0, .ref (a 77)), (1, zz_v x), (2, zz_v y), (4, zz_v (i : Int))]) rfl ?_
              refine gd_iinc hC dX4_gains_104 (j := 6) rfl (y := ((i + 1 : Nat) : Int)) (by omega) (by decide) (lv' := [(4, zz_v ((i + 1 : Nat) : Int)), (3, zz_v ((zz_mgn (S 85) (S 81) (S 83) (S 84) x y i) + 0)), (6, zz_v (zz_mfr (S 85) (S 81) (S 83) (S 84) i)), (5, zz_v 1), (0, .ref (a 77)), (1, zz_v x), (2, zz_v y)]) rfl ?_
              refine gd_goto hC dX4_gains_107 (tgt := 34) (by decide) ?_
              refine gd_sub [4, 5, 6, 1, 0] (lv' := [(0, .ref (a 77)), (1, zz_v x), (2, zz_v y), (3, zz_v ((zz_mgn (S 85) (S 81) (S 83) (S 84) x y i) + 0)), (4, zz_v ((i + 1 : Nat) : Int))]) rfl ?_
              have hz : (zz_mgn (S 85) (S 81) (S 83) (S 84) x y i) + 0 = zz_mgn (S 85) (S 81) (S 83) (S 84) x y (i + 1) := by rw [zz_mgn]; omega
              refine gd_lveq (lv' := [(0, .ref (a 77)), (1, zz_v x), (2, zz_v y), (3, zz_v (zz_mgn (S 85) (S 81) (S 83) (S 84) x y (i + 1))), (4, zz_v (((i + 1) : Nat) : Int))]) (by rw [hz]) ?_
              exact ih34 (i + 1) (by omega) (show (S 77 7).toNat - (i + 1) < (S 77 7).toNat - i by omega)
    · skip
      refine gd_aload_n hC dX4_gains_23 rfl (j := 0) rfl ?_
      refine gd_iconst hC dX4_gains_24 ?_
      refine gd_callVR (As := [zz_v 2]) (rest := []) hC hF (fun hR => c_X4_fails l hl9 N0 G Y a (zz_u (S) (77) (26) (0)) 2 ⟨by decide, by decide⟩) (cwV 1 hts gX4_gains_X4_fails rfl rfl rfl (by decide +kernel) ⟨by decide, by decide⟩) rfl (by decide) (ci := 4) rfl rfl rfl rfl (Nat.le_of_ble_eq_true rfl) dX4_gains_25 ⟨by decide, by decide⟩ (fun E hx => zz_xn hx) (fun q20 q20r => ?_)
      obtain ⟨q20a, q20b⟩ := id q20r
      exact gd_ireturn hC hr rfl hlk dX4_gains_28 (by decide) ⟨_, ⟨by decide, by decide⟩, rfl, (z1 (by omega)).2.symm, (z1 (by omega)).1.symm, trivial⟩
  · skip
    refine gd_eq (S' := zz_u (S) (77) (26) (1)) (by rw [if_pos (by omega)]) ?_
    refine gd_iconst hC dX4_gains_11 ?_
    exact gd_ireturn hC hr rfl hlk dX4_gains_12 (by decide) ⟨_, ⟨by decide, by decide⟩, rfl, (z0 (by omega)).2.symm, (z0 (by omega)).1.symm, trivial⟩
