abbrev rm_X4_letter : Room := { frames := 1, cells := 0, slots := 0, locals := 22 }
set_option maxHeartbeats 4000000 in
set_option maxRecDepth 100000 in
theorem c_X4_letter (l : Launch) (hl9 : l.stackTraces = false) (N0 : Nat) (G : zz_G) (Y : zz_Y) (a : Nat → Nat) (S : zz_S) (x : Int) (hx : zz_R x) (hI : zz_IM S) (e1 : Int) (S1 : zz_S) (z0 : ¬ (97 ≤ x ∧ x ≤ 122) → e1 = 0 ∧ S1 = zz_u (S) 77 26 1) (z1 : (97 ≤ x ∧ x ≤ 122) ∧ S 77 2 = 7 → e1 = 0 ∧ S1 = zz_u ((zz_u S 77 26 0)) 77 26 2) (z2 : (97 ≤ x ∧ x ≤ 122) ∧ ¬ S 77 2 = 7 → e1 = S 77 2 + 1 ∧ S1 = zz_u (zz_u ((zz_u S 77 26 0)) 78 ((S 77 2).toNat) x) 77 2 (S 77 2 + 1)) : CtR l yX4_letter wsX4_letter rm_X4_letter 0 [.ref (a 77), zz_v x] N0 G Y a S (e1) (S1) (True) (False) (False) (False) := by
  refine Ct_.of (cc := cX4_letter) (maxL := 2) (ret := (some .int)) (by decide) rfl (Nat.le_of_ble_eq_true rfl) ?_
  intro p e s m args below meth c hC hts hr hlk hex hF
  have hK := hF.2.1
  have w4 : ∀ w ∈ u_ws RX4 TX4 27, w.before args s = true := fun w h => hts w (List.mem_cons_of_mem _ (List.mem_append_right _ h))
  have f7 : (Cond.fieldLink RX4 7 "GrievancehallModel" "word" "[I").before args s = true := hts _ (by decide +kernel)
  have f96 : (Cond.fieldLink RX4 96 "GrievancehallModel" "letters" "I").before args s = true := hts _ (by decide +kernel)
  refine gd_lveq (lv' := [(0, .ref (a 77)), (1, zz_v x)]) rfl ?_
  obtain ⟨imd, iml, imo, ima, imc, iaf, ilm, iwh, ikd, itd, ims, ihm, ict, iwv, ipl, iab, ist, ilf, ipe, iak, ian, ihe, ifn, iav, iod⟩ := id hI
  obtain ⟨hx1, hx2⟩ := id hx
  refine gd_aload_n hC dX4_letter_0 rfl (j := 0) rfl ?_
  refine gd_iload_n hC dX4_letter_1 rfl (j := 1) rfl ?_
  refine gd_bipush hC dX4_letter_2 rfl ?_
  refine gd_bipush hC dX4_letter_4 rfl ?_
  refine gd_callSR (As := [zz_v x, zz_v 97, zz_v 122]) (rest := [.ref (a 77)]) hC hF (fun hR => c_X4_in l hl9 N0 G Y a (S) x 97 122 ⟨by omega, by omega⟩ ⟨by decide, by decide⟩ ⟨by decide, by decide⟩) (va_cwS 3 hts gX4_letter_X4_in rfl rfl rfl (by decide +kernel) ⟨by decide, by decide⟩) rfl rfl (Nat.le_of_ble_eq_true rfl) dX4_letter_6 ⟨by decide, by decide⟩ (fun E hx => zz_xn hx) (fun q1 q1r => ?_)
  obtain ⟨q1a, q1b⟩ := id q1r
  refine gd_callVR (As := [zz_v (if 97 ≤ x ∧ x ≤ 122 then 1 else 0)]) (rest := []) hC hF (fun hR => c_X4_asks l hl9 N0 G Y a (S) (if 97 ≤ x ∧ x ≤ 122 then 1 else 0) (by omega)) (cwV 1 hts gX4_letter_X4_asks rfl rfl rfl (by decide +kernel) ⟨by decide, by decide⟩) rfl (by decide) (ci := 4) rfl rfl rfl rfl (Nat.le_of_ble_eq_true rfl) dX4_letter_9 ⟨by decide, by decide⟩ (fun E hx => zz_xn hx) (fun q2 q2r => ?_)
  obtain ⟨q2a, q2b⟩ := id q2r
  refine gd_if_ne hC dX4_letter_12 (tgt := 17) (by decide) ⟨by omega, by omega⟩ (fun c3 => ?_) (fun c3 => ?_)
  · skip
    refine gd_eq (S' := zz_u (S) (77) (26) (0)) (by rw [if_neg (by omega)]) ?_
    refine gd_aload_n hC dX4_letter_17 rfl (j := 0) rfl ?_
    refine gd_getI hC w4 hK (ci := 4) rfl (by decide) rfl 2 (by decide) rfl f96 rfl dX4_letter_18 (fun r4 => ?_)
    obtain ⟨r4a, r4b⟩ := id r4
    refine gd_top (y := S 77 2) (zz_u_ne _ _ (by omega)) ?_
    rw [(zz_u_ne _ _ (by omega) : (zz_u (S) (77) (26) (0)) (77) (2) = S 77 2)] at r4a r4b
    refine gd_bipush hC dX4_letter_21 rfl ?_
    refine gd_icmp_ne hC dX4_letter_23 (tgt := 32) (by decide) ⟨by omega, by omega⟩ ⟨by decide, by decide⟩ (fun c5 => ?_) (fun c5 => ?_)
    · skip
      refine gd_aload_n hC dX4_letter_32 rfl (j := 0) rfl ?_
      refine gd_getR hC w4 hK (ci := 4) rfl (by decide) rfl 1 (by decide) (j := 78) rfl f7 rfl dX4_letter_33 ?_
      refine gd_aload_n hC dX4_letter_36 rfl (j := 0) rfl ?_
      refine gd_getI hC w4 hK (ci := 4) rfl (by decide) rfl 2 (by decide) rfl f96 rfl dX4_letter_37 (fun r6 => ?_)
      obtain ⟨r6a, r6b⟩ := id r6
      refine gd_top (y := S 77 2) (zz_u_ne _ _ (by omega)) ?_
      rw [(zz_u_ne _ _ (by omega) : (zz_u (S) (77) (26) (0)) (77) (2) = S 77 2)] at r6a r6b
      refine gd_iload_n hC dX4_letter_40 rfl (j := 1) rfl ?_
      refine gd_iast hC hK (j := (S 77 2).toNat) rfl (by decide) (by omega) (by omega) (by decide) ⟨by omega, by omega⟩ dX4_letter_41 ?_
      refine gd_aload_n hC dX4_letter_42 rfl (j := 0) rfl ?_
      refine gd_dup hC dX4_letter_43 rfl ?_
      refine gd_getI hC w4 hK (ci := 4) rfl (by decide) rfl 2 (by decide) rfl f96 rfl dX4_letter_44 (fun r7 => ?_)
      obtain ⟨r7a, r7b⟩ := id r7
      refine gd_top (y := S 77 2) ((zz_u_ne _ _ (by omega)).trans (zz_u_ne _ _ (by omega))) ?_
      rw [((zz_u_ne _ _ (by omega)).trans (zz_u_ne _ _ (by omega)) : (zz_u (zz_u (S) (77) (26) (0)) (78) ((S 77 2).toNat) (x)) (77) (2) = S 77 2)] at r7a r7b
      refine gd_iconst hC dX4_letter_47 ?_
      refine gd_iadd hC dX4_letter_48 ?_
      refine gd_put hC w4 tyX4 tyX4_ok nmX4 hK (ci := 4) rfl (by decide) rfl 2 (by decide) rfl f96 rfl rfl (ty := .int) (by decide +kernel) rfl rfl ⟨by omega, by omega⟩ dX4_letter_49 ?_
      refine gd_aload_n hC dX4_letter_52 rfl (j := 0) rfl ?_
      refine gd_getI hC w4 hK (ci := 4) rfl (by decide) rfl 2 (by decide) rfl f96 rfl dX4_letter_53 (fun r8 => ?_)
      obtain ⟨r8a, r8b⟩ := id r8
      refine gd_top (y := (S 77 2) + 1) (zz_u_same _ _ _ _) ?_
      rw [(zz_u_same _ _ _ _ : (zz_u (zz_u (zz_u (S) (77) (26) (0)) (78) ((S 77 2).toNat) (x)) (77) (2) ((S 77 2) + 1)) (77) (2) = (S 77 2) + 1)] at r8a r8b
      exact gd_ireturn hC hr rfl hlk dX4_letter_56 (by decide) ⟨_, ⟨by omega, by omega⟩, rfl, (z2 (by omega)).2.symm, (z2 (by omega)).1.symm, trivial⟩
    · skip
      refine gd_aload_n hC dX4_letter_26 rfl (j := 0) rfl ?_
      refine gd_iconst hC dX4_letter_27 ?_
      refine gd_callVR (As := [zz_v 2]) (rest := []) hC hF (fun hR => c_X4_fails l hl9 N0 G Y a (zz_u (S) (77) (26) (0)) 2 ⟨by decide, by decide⟩) (cwV 1 hts gX4_letter_X4_fails rfl rfl rfl (by decide +kernel) ⟨by decide, by decide⟩) rfl (by decide) (ci := 4) rfl rfl rfl rfl (Nat.le_of_ble_eq_true rfl) dX4_letter_28 ⟨by decide, by decide⟩ (fun E hx => zz_xn hx) (fun q9 q9r => ?_)
      obtain ⟨q9a, q9b⟩ := id q9r
      exact gd_ireturn hC hr rfl hlk dX4_letter_31 (by decide) ⟨_, ⟨by decide, by decide⟩, rfl, (z1 (by omega)).2.symm, (z1 (by omega)).1.symm, trivial⟩
  · skip
    refine gd_eq (S' := zz_u (S) (77) (26) (1)) (by rw [if_pos (by omega)]) ?_
    refine gd_iconst hC dX4_letter_15 ?_
    exact gd_ireturn hC hr rfl hlk dX4_letter_16 (by decide) ⟨_, ⟨by decide, by decide⟩, rfl, (z0 (by omega)).2.symm, (z0 (by omega)).1.symm, trivial⟩

abbrev rm_X4_office : Room := { frames := 2, cells := 0, slots := 0, locals := 43 }
set_option maxHeartbeats 4000000 in
set_option maxRecDepth 100000 in
theorem c_X4_office (l : Launch) (hl9 : l.stackTraces = false) (N0 : Nat) (G : zz_G) (Y : zz_Y) (a : Nat → Nat) (S : zz_S) (x : Int) (hx : zz_R x) (hI : zz_IM S) (e1 : Int) (S1 : zz_S) (z0 : ¬ (x = -1 ∨ (0 ≤ x ∧ x ≤ S 77 3 - 1)) → e1 = 0 ∧ S1 = zz_u (S) 77 26 1) (z1 : (x = -1 ∨ (0 ≤ x ∧ x ≤ S 77 3 - 1)) ∧ S 77 3 = 10 → e1 = 0 ∧ S1 = zz_u ((zz_u S 77 26 0)) 77 26 2) (z2 : (x = -1 ∨ (0 ≤ x ∧ x ≤ S 77 3 - 1)) ∧ ¬ S 77 3 = 10 → e1 = S 77 3 ∧ S1 = zz_u (zz_u ((zz_u S 77 26 0)) 79 ((S 77 3).toNat) x) 77 3 (S 77 3 + 1)) : CtR l yX4_office wsX4_office rm_X4_office 0 [.ref (a 77), zz_v x] N0 G Y a S (e1) (S1) (True) (False) (False) (False) := by
  refine Ct_.of (cc := cX4_office) (maxL := 2) (ret := (some .int)) (by decide) rfl (Nat.le_of_ble_eq_true rfl) ?_
  intro p e s m args below meth c hC hts hr hlk hex hF
  have hK := hF.2.1
  have w4 : ∀ w ∈ u_ws RX4 TX4 27, w.before args s = true := fun w h => hts w (List.mem_cons_of_mem _ (List.mem_append_right _ h))
  have f13 : (Cond.fieldLink RX4 13 "GrievancehallModel" "above" "[I").before args s = true := hts _ (by decide +kernel)
  have f79 : (Cond.fieldLink RX4 79 "GrievancehallModel" "offices" "I").before args s = true := hts _ (by decide +kernel)
  refine gd_lveq (lv' := [(0, .ref (a 77)), (1, zz_v x)]) rfl ?_
  obtain ⟨imd, iml, imo, ima, imc, iaf, ilm, iwh, ikd, itd, ims, ihm, ict, iwv, ipl, iab, ist, ilf, ipe, iak, ian, ihe, ifn, iav, iod⟩ := id hI
  obtain ⟨hx1, hx2⟩ := id hx
  refine gd_aload_n hC dX4_office_0 rfl (j := 0) rfl ?_
  refine gd_iload_n hC dX4_office_1 rfl (j := 1) rfl ?_
  refine gd_iconst hC dX4_office_2 ?_
  refine gd_icmp_eq hC dX4_office_3 (tgt := 14) (by decide) ⟨by omega, by omega⟩ ⟨by decide, by decide⟩ (fun c1 => ?_) (fun c1 => ?_)
  · skip
    refine gd_iconst hC dX4_office_14 ?_
    refine gd_goto hC dX4_office_15 (tgt := 19) (by decide) ?_
    refine gd_callVR (As := [zz_v 1]) (rest := []) hC hF (fun hR => c_X4_asks l hl9 N0 G Y a (S) 1 (by omega)) (cwV 1 hts gX4_office_X4_asks rfl rfl rfl (by decide +kernel) ⟨by decide, by decide⟩) rfl (by decide) (ci := 4) rfl rfl rfl rfl (Nat.le_of_ble_eq_true rfl) dX4_office_19 ⟨by decide, by decide⟩ (fun E hx => zz_xn hx) (fun q2 q2r => ?_)
    obtain ⟨q2a, q2b⟩ := id q2r
    refine gd_if_ne hC dX4_office_22 (tgt := 27) (by decide) ⟨by decide, by decide⟩ (fun c3 => ?_) (fun c3 => (by omega))
    refine gd_eq (S' := zz_u (S) (77) (26) (0)) (by rw [if_neg (by omega)]) ?_
    refine gd_aload_n hC dX4_office_27 rfl (j := 0) rfl ?_
    refine gd_getI hC w4 hK (ci := 4) rfl (by decide) rfl 3 (by decide) rfl f79 rfl dX4_office_28 (fun r4 => ?_)
    obtain ⟨r4a, r4b⟩ := id r4
    refine gd_top (y := S 77 3) (zz_u_ne _ _ (by omega)) ?_
    rw [(zz_u_ne _ _ (by omega) : (zz_u (S) (77) (26) (0)) (77) (3) = S 77 3)] at r4a r4b
    refine gd_bipush hC dX4_office_31 rfl ?_
    refine gd_icmp_ne hC dX4_office_33 (tgt := 42) (by decide) ⟨by omega, by omega⟩ ⟨by decide, by decide⟩ (fun c5 => ?_) (fun c5 => ?_)
    · skip
      refine gd_aload_n hC dX4_office_42 rfl (j := 0) rfl ?_
      refine gd_getR hC w4 hK (ci := 4) rfl (by decide) rfl 4 (by decide) (j := 79) rfl f13 rfl dX4_office_43 ?_
      refine gd_aload_n hC dX4_office_46 rfl (j := 0) rfl ?_
      refine gd_getI hC w4 hK (ci := 4) rfl (by decide) rfl 3 (by decide) rfl f79 rfl dX4_office_47 (fun r6 => ?_)
      obtain ⟨r6a, r6b⟩ := id r6
      refine gd_top (y := S 77 3) (zz_u_ne _ _ (by omega)) ?_
      rw [(zz_u_ne _ _ (by omega) : (zz_u (S) (77) (26) (0)) (77) (3) = S 77 3)] at r6a r6b
      refine gd_iload_n hC dX4_office_50 rfl (j := 1) rfl ?_
      refine gd_iast hC hK (j := (S 77 3).toNat) rfl (by decide) (by omega) (by omega) (by decide) ⟨by omega, by omega⟩ dX4_office_51 ?_
      refine gd_aload_n hC dX4_office_52 rfl (j := 0) rfl ?_
      refine gd_dup hC dX4_office_53 rfl ?_
      refine gd_getI hC w4 hK (ci := 4) rfl (by decide) rfl 3 (by decide) rfl f79 rfl dX4_office_54 (fun r7 => ?_)
      obtain ⟨r7a, r7b⟩ := id r7
      refine gd_top (y := S 77 3) ((zz_u_ne _ _ (by omega)).trans (zz_u_ne _ _ (by omega))) ?_
      rw [((zz_u_ne _ _ (by omega)).trans (zz_u_ne _ _ (by omega)) : (zz_u (zz_u (S) (77) (26) (0)) (79) ((S 77 3).toNat) (x)) (77) (3) = S 77 3)] at r7a r7b
      refine gd_iconst hC dX4_office_57 ?_
      refine gd_iadd hC dX4_office_58 ?_
      refine gd_put hC w4 tyX4 tyX4_ok nmX4 hK (ci := 4) rfl (by decide) rfl 3 (by decide) rfl f79 rfl rfl (ty := .int) (by decide +kernel) rfl rfl ⟨by omega, by omega⟩ dX4_office_59 ?_
      refine gd_aload_n hC dX4_office_62 rfl (j := 0) rfl ?_
      refine gd_getI hC w4 hK (ci := 4) rfl (by decide) rfl 3 (by decide) rfl f79 rfl dX4_office_63 (fun r8 => ?_)
      obtain ⟨r8a, r8b⟩ := id r8
      refine gd_top (y := (S 77 3) + 1) (zz_u_same _ _ _ _) ?_
      rw [(zz_u_same _ _ _ _ : (zz_u (zz_u (zz_u (S) (77) (26) (0)) (79) ((S 77 3).toNat) (x)) (77) (3) ((S 77 3) + 1)) (77) (3) = (S 77 3) + 1)] at r8a r8b
      refine gd_iconst hC dX4_office_66 ?_
      refine gd_isub hC dX4_office_67 ?_
      exact gd_ireturn hC hr rfl hlk dX4_office_68 (by decide) ⟨_, ⟨by omega, by omega⟩, rfl, (z2 (by omega)).2.symm, (by rw [(z2 (by omega)).1]; omega), trivial⟩
    · skip
      refine gd_aload_n hC dX4_office_36 rfl (j := 0) rfl ?_
      refine gd_iconst hC dX4_office_37 ?_
      refine gd_callVR (As := [zz_v 2]) (rest := []) hC hF (fun hR => c_X4_fails l hl9 N0 G Y a (zz_u (S) (77) (26) (0)) 2 ⟨by decide, by decide⟩) (cwV 1 hts gX4_office_X4_fails rfl rfl rfl (by decide +kernel) ⟨by decide, by decide⟩) rfl (by decide) (ci := 4) rfl rfl rfl rfl (Nat.le_of_ble_eq_true rfl) dX4_office_38 ⟨by decide, by decide⟩ (fun E hx => zz_xn hx) (fun q9 q9r => ?_)
      obtain ⟨q9a, q9b⟩ := id q9r
      exact gd_ireturn hC hr rfl hlk dX4_office_41 (by decide) ⟨_, ⟨by decide, by decide⟩, rfl, (z1 (by omega)).2.symm, (z1 (by omega)).1.symm, trivial⟩
  · skip
    refine gd_aload_n hC dX4_office_6 rfl (j := 0) rfl ?_
    refine gd_iload_n hC dX4_office_7 rfl (j := 1) rfl ?_
    refine gd_callVR (As := [zz_v x]) (rest := [.ref (a 77)]) hC hF (fun hR => c_X4_isOffice l hl9 N0 G Y a (S) x ⟨by omega, by omega⟩ (by omega)) (cwV 1 hts gX4_office_X4_isOffice rfl rfl rfl (by decide +kernel) ⟨by decide, by decide⟩) rfl (by decide) (ci := 4) rfl rfl rfl rfl (Nat.le_of_ble_eq_true rfl) dX4_office_8 ⟨by decide, by decide⟩ (fun E hx => zz_xn hx) (fun q10 q10r => ?_)
    obtain ⟨q10a, q10b⟩ := id q10r
    refine gd_if_eq hC dX4_office_11 (tgt := 18) (by decide) ⟨by omega, by omega⟩ (fun c11 => ?_) (fun c11 => ?_)
    · skip
      refine gd_iconst hC dX4_office_18 ?_
      refine gd_callVR (As := [zz_v 0]) (rest := []) hC hF (fun hR => c_X4_asks l hl9 N0 G Y a (S) 0 (by omega)) (cwV 1 hts gX4_office_X4_asks rfl rfl rfl (by decide +kernel) ⟨by decide, by decide⟩) rfl (by decide) (ci := 4) rfl rfl rfl rfl (Nat.le_of_ble_eq_true rfl) dX4_office_19 ⟨by decide, by decide⟩ (fun E hx => zz_xn hx) (fun q12 q12r => ?_)
      obtain ⟨q12a, q12b⟩ := id q12r
      refine gd_if_ne hC dX4_office_22 (tgt := 27) (by decide) ⟨by decide, by decide⟩ (fun c13 => (by omega)) (fun c13 => ?_)
      refine gd_eq (S' := zz_u (S) (77) (26) (1)) (by rw [if_pos (by omega)]) ?_
      refine gd_iconst hC dX4_office_25 ?_
      exact gd_ireturn hC hr rfl hlk dX4_office_26 (by decide) ⟨_, ⟨by decide, by decide⟩, rfl, (z0 (by omega)).2.symm, (z0 (by omega)).1.symm, trivial⟩
    · skip
      refine gd_iconst hC dX4_office_14 ?_
      refine gd_goto hC dX4_office_15 (tgt := 19) (by decide) ?_
      refine gd_callVR (As := [zz_v 1]) (rest := []) hC hF (fun hR => c_X4_asks l hl9 N0 G Y a (S) 1 (by omega)) (cwV 1 hts gX4_office_X4_asks rfl rfl rfl (by decide +kernel) ⟨by decide, by decide⟩) rfl (by decide) (ci := 4) rfl rfl rfl rfl (Nat.le_of_ble_eq_true rfl) dX4_office_19 ⟨by decide, by decide⟩ (fun E hx => zz_xn hx) (fun q14 q14r => ?_)
      obtain ⟨q14a, q14b⟩ := id q14r
      refine gd_if_ne hC dX4_office_22 (tgt := 27) (by decide) ⟨by decide, by decide⟩ (fun c15 => ?_) (fun c15 => (by omega))
      refine gd_eq (S' := zz_u (S) (77) (26) (0)) (by rw [if_neg (by omega)]) ?_
      refine gd_aload_n hC dX4_office_27 rfl (j := 0) rfl ?_
      refine gd_getI hC w4 hK (ci := 4) rfl (by decide) rfl 3 (by decide) rfl f79 rfl dX4_office_28 (fun r16 => ?_)
      obtain ⟨r16a, r16b⟩ := id r16
      refine gd_top (y := S 77 3) (zz_u_ne _ _ (by omega)) ?_
      rw [(zz_u_ne _ _ (by omega) : (zz_u (S) (77) (26) (0)) (77) (3) = S 77 3)] at r16a r16b
      refine gd_bipush hC dX4_office_31 rfl ?_
      refine gd_icmp_ne hC dX4_office_33 (tgt := 42) (by decide) ⟨by omega, by omega⟩ ⟨by decide, by decide⟩ (fun c17 => ?_) (fun c17 => ?_)
      · skip
        refine gd_aload_n hC dX4_office_42 rfl (j := 0) rfl ?_
        refine gd_getR hC w4 hK (ci := 4) rfl (by decide) rfl 4 (by decide) (j := 79) rfl f13 rfl dX4_office_43 ?_
        refine gd_aload_n hC dX4_office_46 rfl (j := 0) rfl ?_
        refine gd_getI hC w4 hK (ci := 4) rfl (by decide) rfl 3 (by decide) rfl f79 rfl dX4_office_47 (fun r18 => ?_)
        obtain ⟨r18a, r18b⟩ := id r18
        refine gd_top (y := S 77 3) (zz_u_ne _ _ (by omega)) ?_
        rw [(zz_u_ne _ _ (by omega) : (zz_u (S) (77) (26) (0)) (77) (3) = S 77 3)] at r18a r18b
        refine gd_iload_n hC dX4_office_50 rfl (j := 1) rfl ?_
        refine gd_iast hC hK (j := (S 77 3).toNat) rfl (by decide) (by omega) (by omega) (by decide) ⟨by omega, by omega⟩ dX4_office_51 ?_
        refine gd_aload_n hC dX4_office_52 rfl (j := 0) rfl ?_
        refine gd_dup hC dX4_office_53 rfl ?_
        refine gd_getI hC w4 hK (ci := 4) rfl (by decide) rfl 3 (by decide) rfl f79 rfl dX4_office_54 (fun r19 => ?_)
        obtain ⟨r19a, r19b⟩ := id r19
        refine gd_top (y := S 77 3) ((zz_u_ne _ _ (by omega)).trans (zz_u_ne _ _ (by omega))) ?_
        rw [((zz_u_ne _ _ (by omega)).trans (zz_u_ne _ _ (by omega)) : (zz_u (zz_u (S) (77) (26) (0)) (79) ((S 77 3).toNat) (x)) (77) (3) = S 77 3)] at r19a r19b
        refine gd_iconst hC dX4_office_57 ?_
        refine gd_iadd hC dX4_office_58 ?_
        refine gd_put hC w4 tyX4 tyX4_ok nmX4 hK (ci := 4) rfl (by decide) rfl 3 (by decide) rfl f79 rfl rfl (ty := .int) (by decide +kernel) rfl rfl ⟨by omega, by omega⟩ dX4_office_59 ?_
        refine gd_aload_n hC dX4_office_62 rfl (j := 0) rfl ?_
        refine gd_getI hC w4 hK (ci := 4) rfl (by decide) rfl 3 (by decide) rfl f79 rfl dX4_office_63 (fun r20 => ?_)
        obtain ⟨r20a, r20b⟩ := id r20
        refine gd_top (y := (S 77 3) + 1) (zz_u_same _ _ _ _) ?_
        rw [(zz_u_same _ _ _ _ : (zz_u (zz_u (zz_u (S) (77) (26) (0)) (79) ((S 77 3).toNat) (x)) (77) (3) ((S 77 3) + 1)) (77) (3) = (S 77 3) + 1)] at r20a r20b
        refine gd_iconst hC dX4_office_66 ?_
        refine gd_isub hC dX4_office_67 ?_
        exact gd_ireturn hC hr rfl hlk dX4_office_68 (by decide) ⟨_, ⟨by omega, by omega⟩, rfl, (z2 (by omega)).2.symm, (by rw [(z2 (by omega)).1]; omega), trivial⟩
      · skip
        refine gd_aload_n hC dX4_office_36 rfl (j := 0) rfl ?_
        refine gd_iconst hC dX4_office_37 ?_
        refine gd_callVR (As := [zz_v 2]) (rest := []) hC hF (fun hR => c_X4_fails l hl9 N0 G Y a (zz_u (S) (77) (26) (0)) 2 ⟨by decide, by decide⟩) (cwV 1 hts gX4_office_X4_fails rfl rfl rfl (by decide +kernel) ⟨by decide, by decide⟩) rfl (by decide) (ci := 4) rfl rfl rfl rfl (Nat.le_of_ble_eq_true rfl) dX4_office_38 ⟨by decide, by decide⟩ (fun E hx => zz_xn hx) (fun q21 q21r => ?_)
        obtain ⟨q21a, q21b⟩ := id q21r
        exact gd_ireturn hC hr rfl hlk dX4_office_41 (by decide) ⟨_, ⟨by decide, by decide⟩, rfl, (z1 (by omega)).2.symm, (z1 (by omega)).1.symm, trivial⟩

abbrev rm_X4_delegate : Room := { frames := 2, cells := 0, slots := 0, locals := 43 }
set_option maxHeartbeats 4000000 in
set_option maxRecDepth 100000 in
theorem c_X4_delegate (l : Launch) (hl9 : l.stackTraces = false) (N0 : Nat) (G : zz_G) (Y : zz_Y) (a : Nat → Nat) (S : zz_S) (x y : Int) (hx : zz_R x) (hy : zz_R y) (hI : zz_IM S) (e1 : Int) (S1 : zz_S) (z0 : ¬ ((0 ≤ x ∧ x ≤ S 77 3 - 1) ∧ (y = -1 ∨ (0 ≤ y ∧ y ≤ S 77 3 - 1))) → e1 = 0 ∧ S1 = zz_u (S) 77 26 1) (z1 : ((0 ≤ x ∧ x ≤ S 77 3 - 1) ∧ (y = -1 ∨ (0 ≤ y ∧ y ≤ S 77 3 - 1))) ∧ x = y → e1 = 0 ∧ S1 = zz_u ((zz_u S 77 26 0)) 77 26 2) (z2 : ((0 ≤ x ∧ x ≤ S 77 3 - 1) ∧ (y = -1 ∨ (0 ≤ y ∧ y ≤ S 77 3 - 1))) ∧ ¬ x = y → e1 = (S 80 ((5001 * x) + (S 77 0)).toNat) - 1 ∧ S1 = zz_mfl (zz_u S 77 26 0) 80 (5001 * x) (y + 1) (S 77 0).toNat (5001 - (S 77 0).toNat)) : CtR l yX4_delegate wsX4_delegate rm_X4_delegate 0 [.ref (a 77), zz_v x, zz_v y] N0 G Y a S (e1) (S1) (True) (False) (False) (False) := by
  refine Ct_.of (cc := cX4_delegate) (maxL := 5) (ret := (some .int)) (by decide) rfl (Nat.le_of_ble_eq_true rfl) ?_
  intro p e s m args below meth c hC hts hr hlk hex hF
  have hK := hF.2.1
  have w4 : ∀ w ∈ u_ws RX4 TX4 27, w.before args s = true := fun w h => hts w (List.mem_cons_of_mem _ (List.mem_append_right _ h))
  have f17 : (Cond.fieldLink RX4 17 "GrievancehallModel" "actsFor" "[I").before args s = true := hts _ (by decide +kernel)
  have f107 : (Cond.fieldLink RX4 107 "GrievancehallModel" "day" "I").before args s = true := hts _ (by decide +kernel)
  refine gd_lveq (lv' := [(0, .ref (a 77)), (1, zz_v x), (2, zz_v y)]) rfl ?_
  obtain ⟨imd, iml, imo, ima, imc, iaf, ilm, iwh, ikd, itd, ims, ihm, ict, iwv, ipl, iab, ist, ilf, ipe, iak, ian, ihe, ifn, iav, iod⟩ := id hI
  obtain ⟨hx1, hx2⟩ := id hx
  obtain ⟨hy1, hy2⟩ := id hy
  refine gd_aload_n hC dX4_delegate_0 rfl (j := 0) rfl ?_
  refine gd_aload_n hC dX4_delegate_1 rfl (j := 0) rfl ?_
  refine gd_iload_n hC dX4_delegate_2 rfl (j := 1) rfl ?_
  refine gd_callVR (As := [zz_v x]) (rest := [.ref (a 77)]) hC hF (fun hR => c_X4_isOffice l hl9 N0 G Y a (S) x ⟨by omega, by omega⟩ (by omega)) (cwV 1 hts gX4_delegate_X4_isOffice rfl rfl rfl (by decide +kernel) ⟨by decide, by decide⟩) rfl (by decide) (ci := 4) rfl rfl rfl rfl (Nat.le_of_ble_eq_true rfl) dX4_delegate_3 ⟨by decide, by decide⟩ (fun E hx => zz_xn hx) (fun q1 q1r => ?_)
  obtain ⟨q1a, q1b⟩ := id q1r
  refine gd_if_eq hC dX4_delegate_6 (tgt := 26) (by decide) ⟨by omega, by omega⟩ (fun c2 => ?_) (fun c2 => ?_)
  · skip
    refine gd_iconst hC dX4_delegate_26 ?_
    refine gd_callVR (As := [zz_v 0]) (rest := []) hC hF (fun hR => c_X4_asks l hl9 N0 G Y a (S) 0 (by omega)) (cwV 1 hts gX4_delegate_X4_asks rfl rfl rfl (by decide +kernel) ⟨by decide, by decide⟩) rfl (by decide) (ci := 4) rfl rfl rfl rfl (Nat.le_of_ble_eq_true rfl) dX4_delegate_27 ⟨by decide, by decide⟩ (fun E hx => zz_xn hx) (fun q3 q3r => ?_)
    obtain ⟨q3a, q3b⟩ := id q3r
    refine gd_if_ne hC dX4_delegate_30 (tgt := 35) (by decide) ⟨by decide, by decide⟩ (fun c4 => (by omega)) (fun c4 => ?_)
    refine gd_eq (S' := zz_u (S) (77) (26) (1)) (by rw [if_pos (by omega)]) ?_
    refine gd_iconst hC dX4_delegate_33 ?_
    exact gd_ireturn hC hr rfl hlk dX4_delegate_34 (by decide) ⟨_, ⟨by decide, by decide⟩, rfl, (z0 (by omega)).2.symm, (z0 (by omega)).1.symm, trivial⟩
  · skip
    refine gd_iload_n hC dX4_delegate_9 rfl (j := 2) rfl ?_
    refine gd_iconst hC dX4_delegate_10 ?_
    refine gd_icmp_eq hC dX4_delegate_11 (tgt := 22) (by decide) ⟨by omega, by omega⟩ ⟨by decide, by decide⟩ (fun c5 => ?_) (fun c5 => ?_)
    · skip
      refine gd_iconst hC dX4_delegate_22 ?_
      refine gd_goto hC dX4_delegate_23 (tgt := 27) (by decide) ?_
      refine gd_callVR (As := [zz_v 1]) (rest := []) hC hF (fun hR => c_X4_asks l hl9 N0 G Y a (S) 1 (by omega)) (cwV 1 hts gX4_delegate_X4_asks rfl rfl rfl (by decide +kernel) ⟨by decide, by decide⟩) rfl (by decide) (ci := 4) rfl rfl rfl rfl (Nat.le_of_ble_eq_true rfl) dX4_delegate_27 ⟨by decide, by decide⟩ (fun E hx => zz_xn hx) (fun q6 q6r => ?_)
      obtain ⟨q6a, q6b⟩ := id q6r
      refine gd_if_ne hC dX4_delegate_30 (tgt := 35) (by decide) ⟨by decide, by decide⟩ (fun c7 => ?_) (fun c7 => (by omega))
      refine gd_eq (S' := zz_u (S) (77) (26) (0)) (by rw [if_neg (by omega)]) ?_
      refine gd_iload_n hC dX4_delegate_35 rfl (j := 1) rfl ?_
      refine gd_iload_n hC dX4_delegate_36 rfl (j := 2) rfl ?_
      refine gd_icmp_ne hC dX4_delegate_37 (tgt := 46) (by decide) ⟨by omega, by omega⟩ ⟨by omega, by omega⟩ (fun c8 => ?_) (fun c8 => ?_)
      · skip
        refine gd_aload_n hC dX4_delegate_46 rfl (j := 0) rfl ?_
        refine gd_getR hC w4 hK (ci := 4) rfl (by decide) rfl 5 (by decide) (j := 80) rfl f17 rfl dX4_delegate_47 ?_
        refine gd_sipush hC dX4_delegate_50 rfl ?_
        refine gd_iload_n hC dX4_delegate_53 rfl (j := 1) rfl ?_
        refine gd_imul hC dX4_delegate_54 ?_
        refine gd_aload_n hC dX4_delegate_55 rfl (j := 0) rfl ?_
        refine gd_getI hC w4 hK (ci := 4) rfl (by decide) rfl 0 (by decide) rfl f107 rfl dX4_delegate_56 (fun r9 => ?_)
        obtain ⟨r9a, r9b⟩ := id r9
        refine gd_top (y := S 77 0) (zz_u_ne _ _ (by omega)) ?_
        rw [(zz_u_ne _ _ (by omega) : (zz_u (S) (77) (26) (0)) (77) (0) = S 77 0)] at r9a r9b
        refine gd_iadd hC dX4_delegate_59 ?_
        refine gd_iald hC hK (j := ((5001 * x) + (S 77 0)).toNat) rfl (by decide) (by omega) (by omega) (by decide) dX4_delegate_60 (fun r10 => ?_)
        obtain ⟨r10a, r10b⟩ := id r10
        refine gd_top (y := S 80 (((5001 * x) + (S 77 0)).toNat)) (zz_u_ne _ _ (by omega)) ?_
        rw [(zz_u_ne _ _ (by omega) : (zz_u (S) (77) (26) (0)) (80) (((5001 * x) + (S 77 0)).toNat) = S 80 (((5001 * x) + (S 77 0)).toNat))] at r10a r10b
        have haf := iaf ((5001 * x) + (S 77 0)).toNat (by omega)
        refine gd_iconst hC dX4_delegate_61 ?_
        refine gd_isub hC dX4_delegate_62 ?_
        refine gd_istore_n hC dX4_delegate_63 rfl (by decide) (lv' := [(3, zz_v ((S 80 (((5001 * x) + (S 77 0)).toNat)) - 1)), (0, .ref (a 77)), (1, zz_v x), (2, zz_v y)]) rfl ?_
        refine gd_aload_n hC dX4_delegate_64 rfl (j := 1) rfl ?_
        refine gd_getI hC w4 hK (ci := 4) rfl (by decide) rfl 0 (by decide) rfl f107 rfl dX4_delegate_65 (fun r11 => ?_)
        obtain ⟨r11a, r11b⟩ := id r11
        refine gd_top (y := S 77 0) (zz_u_ne _ _ (by omega)) ?_
        rw [(zz_u_ne _ _ (by omega) : (zz_u (S) (77) (26) (0)) (77) (0) = S 77 0)] at r11a r11b
        refine gd_istore hC dX4_delegate_68 (by decide) (lv' := [(4, zz_v (S 77 0)), (3, zz_v ((S 80 (((5001 * x) + (S 77 0)).toNat)) - 1)), (0, .ref (a 77)), (1, zz_v x), (2, zz_v y)]) rfl ?_
        refine gd_sub [2, 3, 4, 1, 0] (lv' := [(0, .ref (a 77)), (1, zz_v x), (2, zz_v y), (3, zz_v ((S 80 (((5001 * x) + (S 77 0)).toNat)) - 1)), (4, zz_v (S 77 0))]) rfl ?_
        refine gd_loop (σ := Nat) (μ := fun vz => 5001 - (S 77 0).toNat - vz) (I := fun vz => (vz ≤ 5001 - (S 77 0).toNat)) (Sf := fun vz => zz_mfl (zz_u S 77 26 0) 80 (5001 * x) (y + 1) (S 77 0).toNat vz) (lf := fun vz => [(0, .ref (a 77)), (1, zz_v x), (2, zz_v y), (3, zz_v ((S 80 ((5001 * x) + (S 77 0)).toNat) - 1)), (4, zz_v (((S 77 0).toNat + vz : Nat) : Int))]) 0 (by omega) rfl (by rw [show (((S 77 0).toNat + 0 : Nat) : Int) = S 77 0 by omega]) (fun n hI ih70 => ?_)
        have hI0 : n ≤ 5001 - (S 77 0).toNat := hI
        refine gd_lveq (lv' := [(0, .ref (a 77)), (1, zz_v x), (2, zz_v y), (3, zz_v ((S 80 ((5001 * x) + (S 77 0)).toNat) - 1)), (4, zz_v (((S 77 0).toNat + n : Nat) : Int))]) rfl ?_
        refine gd_eq (S' := zz_mfl (zz_u S 77 26 0) 80 (5001 * x) (y + 1) (S 77 0).toNat n) rfl ?_
        refine gd_iload hC dX4_delegate_70 (j := 4) rfl ?_
        refine gd_sipush hC dX4_delegate_72 rfl ?_
        refine gd_icmp_gt hC dX4_delegate_75 (tgt := 100) (by decide) ⟨by omega, by omega⟩ ⟨by decide, by decide⟩ (fun c12 => ?_) (fun c12 => ?_)
        · skip
          refine gd_iload_n hC dX4_delegate_100 rfl (j := 3) rfl ?_
          have hdn : 5001 - (S 77 0).toNat = n := by omega
          exact gd_ireturn hC hr rfl hlk dX4_delegate_101 (by decide) ⟨_, ⟨by omega, by omega⟩, rfl, (by rw [(z2 (by omega)).2, hdn]), (z2 (by omega)).1.symm, trivial⟩
        · skip
          refine gd_aload_n hC dX4_delegate_78 rfl (j := 0) rfl ?_
          refine gd_getR hC w4 hK (ci := 4) rfl (by decide) rfl 5 (by decide) (j := 80) rfl f17 rfl dX4_delegate_79 ?_
          refine gd_sipush hC dX4_delegate_82 rfl ?_
          refine gd_iload_n hC dX4_delegate_85 rfl (j := 1) rfl ?_
          refine gd_imul hC dX4_delegate_86 ?_
          refine gd_iload hC dX4_delegate_87 (j := 4) rfl ?_
          refine gd_iadd hC dX4_delegate_89 ?_
          refine gd_iload_n hC dX4_delegate_90 rfl (j := 2) rfl ?_
          refine gd_iconst hC dX4_delegate_91 ?_
          refine gd_iadd hC dX4_delegate_92 ?_
          refine gd_iast hC hK (j := ((5001 * x) + (((S 77 0).toNat + n : Nat) : Int)).toNat) rfl (by decide) (by omega) (by omega) (by decide) ⟨by omega, by omega⟩ dX4_delegate_93 ?_
          refine gd_iinc hC dX4_delegate_94 (j := 4) rfl (y := (((S 77 0).toNat + n : Nat) : Int) + 1) (by omega) (by decide) (lv' := [(4, zz_v ((((S 77 0).toNat + n : Nat) : Int) + 1)), (0, .ref (a 77)), (1, zz_v x), (2, zz_v y), (3, zz_v ((S 80 ((5001 * x) + (S 77 0)).toNat) - 1))]) rfl ?_
          refine gd_goto hC dX4_delegate_97 (tgt := 70) (by decide) ?_
          refine gd_sub [1, 2, 3, 4, 0] (lv' := [(0, .ref (a 77)), (1, zz_v x), (2, zz_v y), (3, zz_v ((S 80 ((5001 * x) + (S 77 0)).toNat) - 1)), (4, zz_v ((((S 77 0).toNat + n : Nat) : Int) + 1))]) rfl ?_
          refine gd_lveq (lv' := [(0, .ref (a 77)), (1, zz_v x), (2, zz_v y), (3, zz_v ((S 80 ((5001 * x) + (S 77 0)).toNat) - 1)), (4, zz_v (((S 77 0).toNat + (n + 1) : Nat) : Int))]) (by rw [show (((S 77 0).toNat + n : Nat) : Int) + 1 = (((S 77 0).toNat + (n + 1) : Nat) : Int) by omega]) ?_
          refine gd_eq (S' := zz_mfl (zz_u S 77 26 0) 80 (5001 * x) (y + 1) (S 77 0).toNat (n + 1)) rfl ?_
          exact ih70 (n + 1) (by omega) (show 5001 - (S 77 0).toNat - (n + 1) < 5001 - (S 77 0).toNat - n by omega)
      · skip
        refine gd_aload_n hC dX4_delegate_40 rfl (j := 0) rfl ?_
        refine gd_iconst hC dX4_delegate_41 ?_
        refine gd_callVR (As := [zz_v 2]) (rest := []) hC hF (fun hR => c_X4_fails l hl9 N0 G Y a (zz_u (S) (77) (26) (0)) 2 ⟨by decide, by decide⟩) (cwV 1 hts gX4_delegate_X4_fails rfl rfl rfl (by decide +kernel) ⟨by decide, by decide⟩) rfl (by decide) (ci := 4) rfl rfl rfl rfl (Nat.le_of_ble_eq_true rfl) dX4_delegate_42 ⟨by decide, by decide⟩ (fun E hx => zz_xn hx) (fun q13 q13r => ?_)
        obtain ⟨q13a, q13b⟩ := id q13r
        exact gd_ireturn hC hr rfl hlk dX4_delegate_45 (by decide) ⟨_, ⟨by decide, by decide⟩, rfl, (z1 (by omega)).2.symm, (z1 (by omega)).1.symm, trivial⟩
    · skip
      refine gd_aload_n hC dX4_delegate_14 rfl (j := 0) rfl ?_
      refine gd_iload_n hC dX4_delegate_15 rfl (j := 2) rfl ?_
      refine gd_callVR (As := [zz_v y]) (rest := [.ref (a 77)]) hC hF (fun hR => c_X4_isOffice l hl9 N0 G Y a (S) y ⟨by omega, by omega⟩ (by omega)) (cwV 1 hts gX4_delegate_X4_isOffice rfl rfl rfl (by decide +kernel) ⟨by decide, by decide⟩) rfl (by decide) (ci := 4) rfl rfl rfl rfl (Nat.le_of_ble_eq_true rfl) dX4_delegate_16 ⟨by decide, by decide⟩ (fun E hx => zz_xn hx) (fun q14 q14r => ?_)
      obtain ⟨q14a, q14b⟩ := id q14r
      refine gd_if_eq hC dX4_delegate_19 (tgt := 26) (by decide) ⟨by omega, by omega⟩ (fun c15 => ?_) (fun c15 => ?_)
      · skip
        refine gd_iconst hC dX4_delegate_26 ?_
        refine gd_callVR (As := [zz_v 0]) (rest := []) hC hF (fun hR => c_X4_asks l hl9 N0 G Y a (S) 0 (by omega)) (cwV 1 hts gX4_delegate_X4_asks rfl rfl rfl (by decide +kernel) ⟨by decide, by decide⟩) rfl (by decide) (ci := 4) rfl rfl rfl rfl (Nat.le_of_ble_eq_true rfl) dX4_delegate_27 ⟨by decide, by decide⟩ (fun E hx => zz_xn hx) (fun q16 q16r => ?_)
        obtain ⟨q16a, q16b⟩ := id q16r
        refine gd_if_ne hC dX4_delegate_30 (tgt := 35) (by decide) ⟨by decide, by decide⟩ (fun c17 => (by omega)) (fun c17 => ?_)
        refine gd_eq (S' := zz_u (S) (77) (26) (1)) (by rw [if_pos (by omega)]) ?_
        refine gd_iconst hC dX4_delegate_33 ?_
        exact gd_ireturn hC hr rfl hlk dX4_delegate_34 (by decide) ⟨_, ⟨by decide, by decide⟩, rfl, (z0 (by omega)).2.symm, (z0 (by omega)).1.symm, trivial⟩
      · skip
        refine gd_iconst hC dX4_delegate_22 ?_
        refine gd_goto hC dX4_delegate_23 (tgt := 27) (by decide) ?_
        refine gd_callVR (As := [zz_v 1]) (rest := []) hC hF (fun hR => c_X4_asks l hl9 N0 G Y a (S) 1 (by omega)) (cwV 1 hts gX4_delegate_X4_asks rfl rfl rfl (by decide +kernel) ⟨by decide, by decide⟩) rfl (by decide) (ci := 4) rfl rfl rfl rfl (Nat.le_of_ble_eq_true rfl) dX4_delegate_27 ⟨by decide, by decide⟩ (fun E hx => zz_xn hx) (fun q18 q18r => ?_)
        obtain ⟨q18a, q18b⟩ := id q18r
        refine gd_if_ne hC dX4_delegate_30 (tgt := 35) (by decide) ⟨by decide, by decide⟩ (fun c19 => ?_) (fun c19 => (by omega))
        refine gd_eq (S' := zz_u (S) (77) (26) (0)) (by rw [if_neg (by omega)]) ?_
        refine gd_iload_n hC dX4_delegate_35 rfl (j := 1) rfl ?_
        refine gd_iload_n hC dX4_delegate_36 rfl (j := 2) rfl ?_
        refine gd_icmp_ne hC dX4_delegate_37 (tgt := 46) (by decide) ⟨by omega, by omega⟩ ⟨by omega, by omega⟩ (fun c20 => ?_) (fun c20 => ?_)
        · skip
          refine gd_aload_n hC dX4_delegate_46 rfl (j := 0) rfl ?_
          refine gd_getR hC w4 hK (ci := 4) rfl (by decide) rfl 5 (by decide) (j := 80) rfl f17 rfl dX4_delegate_47 ?_
          refine gd_sipush hC dX4_delegate_50 rfl ?_
          refine gd_iload_n hC dX4_delegate_53 rfl (j := 1) rfl ?_
          refine gd_imul hC dX4_delegate_54 ?_
          refine gd_aload_n hC dX4_delegate_55 rfl (j := 0) rfl ?_
          refine gd_getI hC w4 hK (ci := 4) rfl (by decide) rfl 0 (by decide) rfl f107 rfl dX4_delegate_56 (fun r21 => ?_)
          obtain ⟨r21a, r21b⟩ := id r21
          refine gd_top (y := S 77 0) (zz_u_ne _ _ (by omega)) ?_
          rw [(zz_u_ne _ _ (by omega) : (zz_u (S) (77) (26) (0)) (77) (0) = S 77 0)] at r21a r21b
          refine gd_iadd hC dX4_delegate_59 ?_
          refine gd_iald hC hK (j := ((5001 * x) + (S 77 0)).toNat) rfl (by decide) (by omega) (by omega) (by decide) dX4_delegate_60 (fun r22 => ?_)
          obtain ⟨r22a, r22b⟩ := id r22
          refine gd_top (y := S 80 (((5001 * x) + (S 77 0)).toNat)) (zz_u_ne _ _ (by omega)) ?_
          rw [(zz_u_ne _ _ (by omega) : (zz_u (S) (77) (26) (0)) (80) (((5001 * x) + (S 77 0)).toNat) = S 80 (((5001 * x) + (S 77 0)).toNat))] at r22a r22b
          have haf := iaf ((5001 * x) + (S 77 0)).toNat (by omega)
          refine gd_iconst hC dX4_delegate_61 ?_
          refine gd_isub hC dX4_delegate_62 ?_
          refine gd_istore_n hC dX4_delegate_63 rfl (by decide) (lv' := [(3, zz_v ((S 80 (((5001 * x) + (S 77 0)).toNat)) - 1)), (0, .ref (a 77)), (1, zz_v x), (2, zz_v y)]) rfl ?_
          refine gd_aload_n hC dX4_delegate_64 rfl (j := 1) rfl ?_
          refine gd_getI hC w4 hK (ci := 4) rfl (by decide) rfl 0 (by decide) rfl f107 rfl dX4_delegate_65 (fun r23 => ?_)
          obtain ⟨r23a, r23b⟩ := id r23
          refine gd_top (y := S 77 0) (zz_u_ne _ _ (by omega)) ?_
          rw [(zz_u_ne _ _ (by omega) : (zz_u (S) (77) (26) (0)) (77) (0) = S 77 0)] at r23a r23b
          refine gd_istore hC dX4_delegate_68 (by decide) (lv' := [(4, zz_v (S 77 0)), (3, zz_v ((S 80 (((5001 * x) + (S 77 0)).toNat)) - 1)), (0, .ref (a 77)), (1, zz_v x), (2, zz_v y)]) rfl ?_
          refine gd_sub [2, 3, 4, 1, 0] (lv' := [(0, .ref (a 77)), (1, zz_v x), (2, zz_v y), (3, zz_v ((S 80 (((5001 * x) + (S 77 0)).toNat)) - 1)), (4, zz_v (S 77 0))]) rfl ?_
          refine gd_loop (σ := Nat) (μ := fun vz => 5001 - (S 77 0).toNat - vz) (I := fun vz => (vz ≤ 5001 - (S 77 0).toNat)) (Sf := fun vz => zz_mfl (zz_u S 77 26 0) 80 (5001 * x) (y + 1) (S 77 0).toNat vz) (lf := fun vz => [(0, .ref (a 77)), (1, zz_v x), (2, zz_v y), (3, zz_v ((S 80 ((5001 * x) + (S 77 0)).toNat) - 1)), (4, zz_v (((S 77 0).toNat + vz : Nat) : Int))]) 0 (by omega) rfl (by rw [show (((S 77 0).toNat + 0 : Nat) : Int) = S 77 0 by omega]) (fun n hI ih70 => ?_)
          have hI0 : n ≤ 5001 - (S 77 0).toNat := hI
          refine gd_lveq (lv' := [(0, .ref (a 77)), (1, zz_v x), (2, zz_v y), (3, zz_v ((S 80 ((5001 * x) + (S 77 0)).toNat) - 1)), (4, zz_v (((S 77 0).toNat + n : Nat) : Int))]) rfl ?_
          refine gd_eq (S' := zz_mfl (zz_u S 77 26 0) 80 (5001 * x) (y + 1) (S 77 0).toNat n) rfl ?_
          refine gd_iload hC dX4_delegate_70 (j := 4) rfl ?_
          refine gd_sipush hC dX4_delegate_72 rfl ?_
          refine gd_icmp_gt hC dX4_delegate_75 (tgt := 100) (by decide) ⟨by omega, by omega⟩ ⟨by decide, by decide⟩ (fun c24 => ?_) (fun c24 => ?_)
          · skip
            refine gd_iload_n hC dX4_delegate_100 rfl (j := 3) rfl ?_
            have hdn : 5001 - (S 77 0).toNat = n := by omega
            exact gd_ireturn hC hr rfl hlk dX4_delegate_101 (by decide) ⟨_, ⟨by omega, by omega⟩, rfl, (by rw [(z2 (by omega)).2, hdn]), (z2 (by omega)).1.symm, trivial⟩
          · skip
            refine gd_aload_n hC dX4_delegate_78 rfl (j := 0) rfl ?_
            refine gd_getR hC w4 hK (ci := 4) rfl (by decide) rfl 5 (by decide) (j := 80) rfl f17 rfl dX4_delegate_79 ?_
            refine gd_sipush hC dX4_delegate_82 rfl ?_
            refine gd_iload_n hC dX4_delegate_85 rfl (j := 1) rfl ?_
            refine gd_imul hC dX4_delegate_86 ?_
            refine gd_iload hC dX4_delegate_87 (j := 4) rfl ?_
            refine gd_iadd hC dX4_delegate_89 ?_
            refine gd_iload_n hC dX4_delegate_90 rfl (j := 2) rfl ?_
            refine gd_iconst hC dX4_delegate_91 ?_
            refine gd_iadd hC dX4_delegate_92 ?_
            refine gd_iast hC hK (j := ((5001 * x) + (((S 77 0).toNat + n : Nat) : Int)).toNat) rfl (by decide) (by omega) (by omega) (by decide) ⟨by omega, by omega⟩ dX4_delegate_93 ?_
            refine gd_iinc hC dX4_delegate_94 (j := 4) rfl (y := (((S 77 0).toNat + n : Nat) : Int) + 1) (by omega) (by decide) (lv' := [(4, zz_v ((((S 77 0).toNat + n : Nat) : Int) + 1)), (0, .ref (a 77)), (1, zz_v x), (2, zz_v y), (3, zz_v ((S 80 ((5001 * x) + (S 77 0)).toNat) - 1))]) rfl ?_
            refine gd_goto hC dX4_delegate_97 (tgt := 70) (by decide) ?_
            refine gd_sub [1, 2, 3, 4, 0] (lv' := [(0, .ref (a 77)), (1, zz_v x), (2, zz_v y), (3, zz_v ((S 80 ((5001 * x) + (S 77 0)).toNat) - 1)), (4, zz_v ((((S 77 0).toNat + n : Nat) : Int) + 1))]) rfl ?_
            refine gd_lveq (lv' := [(0, .ref (a 77)), (1, zz_v x), (2, zz_v y), (3, zz_v ((S 80 ((5001 * x) + (S 77 0)).toNat) - 1)), (4, zz_v (((S 77 0).toNat + (n + 1) : Nat) : Int))]) (by rw [show (((S 77 0).toNat + n : Nat) : Int) + 1 = (((S 77 0).toNat + (n + 1) : Nat) : Int) by omega]) ?_
            refine gd_eq (S' := zz_mfl (zz_u S 77 26 0) 80 (5001 * x) (y + 1) (S 77 0).toNat (n + 1)) rfl ?_
            exact ih70 (n + 1) (by omega) (show 5001 - (S 77 0).toNat - (n + 1) < 5001 - (S 77 0).toNat - n by omega)
        · skip
          refine gd_aload_n hC dX4_delegate_40 rfl (j := 0) rfl ?_
          refine gd_iconst hC dX4_delegate_41 ?_
          refine gd_callVR (As := [zz_v 2]) (rest := []) hC hF (fun hR => c_X4_fails l hl9 N0 G Y a (zz_u (S) (77) (26) (0)) 2 ⟨by decide, by decide⟩) (cwV 1 hts gX4_delegate_X4_fails rfl rfl rfl (by decide +kernel) ⟨by decide, by decide⟩) rfl (by decide) (ci := 4) rfl rfl rfl rfl (Nat.le_of_ble_eq_true rfl) dX4_delegate_42 ⟨by decide, by decide⟩ (fun E hx => zz_xn hx) (fun q25 q25r => ?_)
          obtain ⟨q25a, q25b⟩ := id q25r
          exact gd_ireturn hC hr rfl hlk dX4_delegate_45 (by decide) ⟨_, ⟨by decide, by decide⟩, rfl, (z1 (by omega)).2.symm, (z1 (by omega)).1.symm, trivial⟩

abbrev rm_X4_whose : Room := { frames := 2, cells := 0, slots := 0, locals := 43 }
set_option maxHeartbeats 4000000 in
set_option maxRecDepth 100000 in
theorem c_X4_whose (l : Launch) (hl9 : l.stackTraces = false) (N0 : Nat) (G : zz_G) (Y : zz_Y) (a : Nat → Nat) (S : zz_S) (x y : Int) (hx : zz_R x) (hy : zz_R y) (hI : zz_IM S) (e1 : Int) (S1 : zz_S) (z0 : ¬ (0 ≤ x ∧ x ≤ S 77 3 - 1) → e1 = 0 ∧ S1 = zz_u (S) 77 26 1) (z1 : (0 ≤ x ∧ x ≤ S 77 3 - 1) ∧ ¬ (0 ≤ y ∧ y ≤ S 77 0) → e1 = 0 ∧ S1 = zz_u ((zz_u S 77 26 0)) 77 26 2) (z2 : (0 ≤ x ∧ x ≤ S 77 3 - 1) ∧ (0 ≤ y ∧ y ≤ S 77 0) → e1 = zz_mwo (S 80) y 10 x ∧ S1 = (zz_u S 77 26 0)) : CtR l yX4_whose wsX4_whose rm_X4_whose 0 [.ref (a 77), zz_v x, zz_v y] N0 G Y a S (e1) (S1) (True) (False) (False) (False) := by
  refine Ct_.of (cc := cX4_whose) (maxL := 3) (ret := (some .int)) (by decide) rfl (Nat.le_of_ble_eq_true rfl) ?_
  intro p e s m args below meth c hC hts hr hlk hex hF
  have hK := hF.2.1
  have w4 : ∀ w ∈ u_ws RX4 TX4 27, w.before args s = true := fun w h => hts w (List.mem_cons_of_mem _ (List.mem_append_right _ h))
  have f107 : (Cond.fieldLink RX4 107 "GrievancehallModel" "day" "I").before args s = true := hts _ (by decide +kernel)
  refine gd_lveq (lv' := [(0, .ref (a 77)), (1, zz_v x), (2, zz_v y)]) rfl ?_
  obtain ⟨imd, iml, imo, ima, imc, iaf, ilm, iwh, ikd, itd, ims, ihm, ict, iwv, ipl, iab, ist, ilf, ipe, iak, ian, ihe, ifn, iav, iod⟩ := id hI
  obtain ⟨hx1, hx2⟩ := id hx
  obtain ⟨hy1, hy2⟩ := id hy
  refine gd_aload_n hC dX4_whose_0 rfl (j := 0) rfl ?_
  refine gd_aload_n hC dX4_whose_1 rfl (j := 0) rfl ?_
  refine gd_iload_n hC dX4_whose_2 rfl (j := 1) rfl ?_
  refine gd_callVR (As := [zz_v x]) (rest := [.ref (a 77)]) hC hF (fun hR => c_X4_isOffice l hl9 N0 G Y a (S) x ⟨by omega, by omega⟩ (by omega)) (cwV 1 hts gX4_whose_X4_isOffice rfl rfl rfl (by decide +kernel) ⟨by decide, by decide⟩) rfl (by decide) (ci := 4) rfl rfl rfl rfl (Nat.le_of_ble_eq_true rfl) dX4_whose_3 ⟨by decide, by decide⟩ (fun E hx => zz_xn hx) (fun q1 q1r => ?_)
  obtain ⟨q1a, q1b⟩ := id q1r
  refine gd_callVR (As := [zz_v (if 0 ≤ x ∧ x ≤ S 77 3 - 1 then 1 else 0)]) (rest := []) hC hF (fun hR => c_X4_asks l hl9 N0 G Y a (S) (if 0 ≤ x ∧ x ≤ S 77 3 - 1 then 1 else 0) (by omega)) (cwV 1 hts gX4_whose_X4_asks rfl rfl rfl (by decide +kernel) ⟨by decide, by decide⟩) rfl (by decide) (ci := 4) rfl rfl rfl rfl (Nat.le_of_ble_eq_true rfl) dX4_whose_6 ⟨by decide, by decide⟩ (fun E hx => zz_xn hx) (fun q2 q2r => ?_)
  obtain ⟨q2a, q2b⟩ := id q2r
  refine gd_if_ne hC dX4_whose_9 (tgt := 14) (by decide) ⟨by omega, by omega⟩ (fun c3 => ?_) (fun c3 => ?_)
  · skip
    refine gd_eq (S' := zz_u (S) (77) (26) (0)) (by rw [if_neg (by omega)]) ?_
    refine gd_iload_n hC dX4_whose_14 rfl (j := 2) rfl ?_
    refine gd_iconst hC dX4_whose_15 ?_
    refine gd_aload_n hC dX4_whose_16 rfl (j := 0) rfl ?_
    refine gd_getI hC w4 hK (ci := 4) rfl (by decide) rfl 0 (by decide) rfl f107 rfl dX4_whose_17 (fun r4 => ?_)
    obtain ⟨r4a, r4b⟩ := id r4
    refine gd_top (y := S 77 0) (zz_u_ne _ _ (by omega)) ?_
    rw [(zz_u_ne _ _ (by omega) : (zz_u (S) (77) (26) (0)) (77) (0) = S 77 0)] at r4a r4b
    refine gd_callSR (As := [zz_v y, zz_v 0, zz_v (S 77 0)]) (rest := []) hC hF (fun hR => c_X4_in l hl9 N0 G Y a (zz_u (S) (77) (26) (0)) y 0 (S 77 0) ⟨by omega, by omega⟩ ⟨by decide, by decide⟩ ⟨by omega, by omega⟩) (va_cwS 3 hts gX4_whose_X4_in rfl rfl rfl (by decide +kernel) ⟨by decide, by decide⟩) rfl rfl (Nat.le_of_ble_eq_true rfl) dX4_whose_20 ⟨by decide, by decide⟩ (fun E hx => zz_xn hx) (fun q5 q5r => ?_)
    obtain ⟨q5a, q5b⟩ := id q5r
    refine gd_if_eq hC dX4_whose_23 (tgt := 35) (by decide) ⟨by omega, by omega⟩ (fun c6 => ?_) (fun c6 => ?_)
    · skip
      refine gd_aload_n hC dX4_whose_35 rfl (j := 0) rfl ?_
      refine gd_iconst hC dX4_whose_36 ?_
      refine gd_callVR (As := [zz_v 2]) (rest := []) hC hF (fun hR => c_X4_fails l hl9 N0 G Y a (zz_u (S) (77) (26) (0)) 2 ⟨by decide, by decide⟩) (cwV 1 hts gX4_whose_X4_fails rfl rfl rfl (by decide +kernel) ⟨by decide, by decide⟩) rfl (by decide) (ci := 4) rfl rfl rfl rfl (Nat.le_of_ble_eq_true rfl) dX4_whose_37 ⟨by decide, by decide⟩ (fun E hx => zz_xn hx) (fun q7 q7r => ?_)
      obtain ⟨q7a, q7b⟩ := id q7r
      exact gd_ireturn hC hr rfl hlk dX4_whose_40 (by decide) ⟨_, ⟨by decide, by decide⟩, rfl, (z1 (by omega)).2.symm, (z1 (by omega)).1.symm, trivial⟩
    · skip
      refine gd_aload_n hC dX4_whose_26 rfl (j := 0) rfl ?_
      refine gd_iload_n hC dX4_whose_27 rfl (j := 1) rfl ?_
      refine gd_iload_n hC dX4_whose_28 rfl (j := 2) rfl ?_
      refine gd_callVR (As := [zz_v x, zz_v y]) (rest := []) hC hF (fun hR => c_X4_whoseOn l hl9 N0 G Y a (zz_u (S) (77) (26) (0)) x y (by omega) (by omega) iaf) (cwV 2 hts gX4_whose_X4_whoseOn rfl rfl rfl (by decide +kernel) ⟨by decide, by decide⟩) rfl (by decide) (ci := 4) rfl rfl rfl rfl (Nat.le_of_ble_eq_true rfl) dX4_whose_29 ⟨by decide, by decide⟩ (fun E hx => zz_xn hx) (fun q8 q8r => ?_)
      obtain ⟨q8a, q8b⟩ := id q8r
      refine gd_top (y := zz_mwo (S 80) y 10 x) rfl ?_
      have q8n : zz_R (zz_mwo (S 80) y 10 x) := q8r
      obtain ⟨q8na, q8nb⟩ := id q8n
      refine gd_goto hC dX4_whose_32 (tgt := 40) (by decide) ?_
      exact gd_ireturn hC hr rfl hlk dX4_whose_40 (by decide) ⟨_, ⟨by omega, by omega⟩, rfl, (z2 (by omega)).2.symm, (z2 (by omega)).1.symm, trivial⟩
  · skip
    refine gd_eq (S' := zz_u (S) (77) (26) (1)) (by rw [if_pos (by omega)]) ?_
    refine gd_iconst hC dX4_whose_12 ?_
    exact gd_ireturn hC hr rfl hlk dX4_whose_13 (by decide) ⟨_, ⟨by decide, by decide⟩, rfl, (z0 (by omega)).2.symm, (z0 (by omega)).1.symm, trivial⟩

abbrev rm_X4_limit : Room := { frames := 2, cells := 0, slots := 0, locals := 42 }
set_option maxHeartbeats 4000000 in
set_option maxRecDepth 100000 in
theorem c_X4_limit (l : Launch) (hl9 : l.stackTraces = false) (N0 : Nat) (G : zz_G) (Y : zz_Y) (a : Nat → Nat) (S : zz_S) (x y : Int) (hx : zz_R x) (hy : zz_R y) (hI : zz_IM S) (e1 : Int) (S1 : zz_S) (z0 : ¬ (0 ≤ x ∧ x ≤ 3) → e1 = 0 ∧ S1 = zz_u (S) 77 26 1) (z1 : (0 ≤ x ∧ x ≤ 3) ∧ ¬ (0 ≤ y ∧ y ≤ 100) → e1 = 0 ∧ S1 = zz_u ((zz_u S 77 26 0)) 77 26 2) (z2 : (0 ≤ x ∧ x ≤ 3) ∧ (0 ≤ y ∧ y ≤ 100) → e1 = S 81 ((5001 * x) + (S 77 0)).toNat ∧ S1 = zz_mfl (zz_u S 77 26 0) 81 (5001 * x) y (S 77 0).toNat (5001 - (S 77 0).toNat)) : CtR l yX4_limit wsX4_limit rm_X4_limit 0 [.ref (a 77), zz_v x, zz_v y] N0 G Y a S (e1) (S1) (True) (False) (False) (False) := by
  refine Ct_.of (cc := cX4_limit) (maxL := 5) (ret := (some .int)) (by decide) rfl (Nat.le_of_ble_eq_true rfl) ?_
  intro p e s m args below meth c hC hts hr hlk hex hF
  have hK := hF.2.1
  have w4 : ∀ w ∈ u_ws RX4 TX4 27, w.before args s = true := fun w h => hts w (List.mem_cons_of_mem _ (List.mem_append_right _ h))
  have f20 : (Cond.fieldLink RX4 20 "GrievancehallModel" "limits" "[I").before args s = true := hts _ (by decide +kernel)
  have f107 : (Cond.fieldLink RX4 107 "GrievancehallModel" "day" "I").before args s = true := hts _ (by decide +kernel)
  refine gd_lveq (lv' := [(0, .ref (a 77)), (1, zz_v x), (2, zz_v y)]) rfl ?_
  obtain ⟨imd, iml, imo, ima, imc, iaf, ilm, iwh, ikd, itd, ims, ihm, ict, iwv, ipl, iab, ist, ilf, ipe, iak, ian, ihe, ifn, iav, iod⟩ := id hI
  obtain ⟨hx1, hx2⟩ := id hx
  obtain ⟨hy1, hy2⟩ := id hy
  refine gd_aload_n hC dX4_limit_0 rfl (j := 0) rfl ?_
  refine gd_iload_n hC dX4_limit_1 rfl (j := 1) rfl ?_
  refine gd_callSR (As := [zz_v x]) (rest := [.ref (a 77)]) hC hF (fun hR => c_X4_isKind l hl9 N0 G Y a (S) x ⟨by omega, by omega⟩) (va_cwS 1 hts gX4_limit_X4_isKind rfl rfl rfl (by decide +kernel) ⟨by decide, by decide⟩) rfl rfl (Nat.le_of_ble_eq_true rfl) dX4_limit_2 ⟨by decide, by decide⟩ (fun E hx => zz_xn hx) (fun q1 q1r => ?_)
  obtain ⟨q1a, q1b⟩ := id q1r
  refine gd_callVR (As := [zz_v (if 0 ≤ x ∧ x ≤ 3 then 1 else 0)]) (rest := []) hC hF (fun hR => c_X4_asks l hl9 N0 G Y a (S) (if 0 ≤ x ∧ x ≤ 3 then 1 else 0) (by omega)) (cwV 1 hts gX4_limit_X4_asks rfl rfl rfl (by decide +kernel) ⟨by decide, by decide⟩) rfl (by decide) (ci := 4) rfl rfl rfl rfl (Nat.le_of_ble_eq_true rfl) dX4_limit_5 ⟨by decide, by decide⟩ (fun E hx => zz_xn hx) (fun q2 q2r => ?_)
  obtain ⟨q2a, q2b⟩ := id q2r
  refine gd_if_ne hC dX4_limit_8 (tgt := 13) (by decide) ⟨by omega, by omega⟩ (fun c3 => ?_) (fun c3 => ?_)
  · skip
    refine gd_eq (S' := zz_u (S) (77) (26) (0)) (by rw [if_neg (by omega)]) ?_
    refine gd_iload_n hC dX4_limit_13 rfl (j := 2) rfl ?_
    refine gd_iconst hC dX4_limit_14 ?_
    refine gd_bipush hC dX4_limit_15 rfl ?_
    refine gd_callSR (As := [zz_v y, zz_v 0, zz_v 100]) (rest := []) hC hF (fun hR => c_X4_in l hl9 N0 G Y a (zz_u (S) (77) (26) (0)) y 0 100 ⟨by omega, by omega⟩ ⟨by decide, by decide⟩ ⟨by decide, by decide⟩) (va_cwS 3 hts gX4_limit_X4_in rfl rfl rfl (by decide +kernel) ⟨by decide, by decide⟩) rfl rfl (Nat.le_of_ble_eq_true rfl) dX4_limit_17 ⟨by decide, by decide⟩ (fun E hx => zz_xn hx) (fun q4 q4r => ?_)
    obtain ⟨q4a, q4b⟩ := id q4r
    refine gd_if_ne hC dX4_limit_20 (tgt := 29) (by decide) ⟨by omega, by omega⟩ (fun c5 => ?_) (fun c5 => ?_)
    · skip
      refine gd_aload_n hC dX4_limit_29 rfl (j := 0) rfl ?_
      refine gd_getR hC w4 hK (ci := 4) rfl (by decide) rfl 6 (by decide) (j := 81) rfl f20 rfl dX4_limit_30 ?_
      refine gd_sipush hC dX4_limit_33 rfl ?_
      refine gd_iload_n hC dX4_limit_36 rfl (j := 1) rfl ?_
      refine gd_imul hC dX4_limit_37 ?_
      refine gd_aload_n hC dX4_limit_38 rfl (j := 0) rfl ?_
      refine gd_getI hC w4 hK (ci := 4) rfl (by decide) rfl 0 (by decide) rfl f107 rfl dX4_limit_39 (fun r6 => ?_)
      obtain ⟨r6a, r6b⟩ := id r6
      refine gd_top (y := S 77 0) (zz_u_ne _ _ (by omega)) ?_
      rw [(zz_u_ne _ _ (by omega) : (zz_u (S) (77) (26) (0)) (77) (0) = S 77 0)] at r6a r6b
      refine gd_iadd hC dX4_limit_42 ?_
      refine gd_iald hC hK (j := ((5001 * x) + (S 77 0)).toNat) rfl (by decide) (by omega) (by omega) (by decide) dX4_limit_43 (fun r7 => ?_)
      obtain ⟨r7a, r7b⟩ := id r7
      refine gd_top (y := S 81 (((5001 * x) + (S 77 0)).toNat)) (zz_u_ne _ _ (by omega)) ?_
      rw [(zz_u_ne _ _ (by omega) : (zz_u (S) (77) (26) (0)) (81) (((5001 * x) + (S 77 0)).toNat) = S 81 (((5001 * x) + (S 77 0)).toNat))] at r7a r7b
      refine gd_istore_n hC dX4_limit_44 rfl (by decide) (lv' := [(3, zz_v (S 81 (((5001 * x) + (S 77 0)).toNat))), (0, .ref (a 77)), (1, zz_v x), (2, zz_v y)]) rfl ?_
      refine gd_aload_n hC dX4_limit_45 rfl (j := 1) rfl ?_
      refine gd_getI hC w4 hK (ci := 4) rfl (by decide) rfl 0 (by decide) rfl f107 rfl dX4_limit_46 (fun r8 => ?_)
      obtain ⟨r8a, r8b⟩ := id r8
      refine gd_top (y := S 77 0) (zz_u_ne _ _ (by omega)) ?_
      rw [(zz_u_ne _ _ (by omega) : (zz_u (S) (77) (26) (0)) (77) (0) = S 77 0)] at r8a r8b
      refine gd_istore hC dX4_limit_49 (by decide) (lv' := [(4, zz_v (S 77 0)), (3, zz_v (S 81 (((5001 * x) + (S 77 0)).toNat))), (0, .ref (a 77)), (1, zz_v x), (2, zz_v y)]) rfl ?_
      refine gd_sub [2, 3, 4, 1, 0] (lv' := [(0, .ref (a 77)), (1, zz_v x), (2, zz_v y), (3, zz_v (S 81 (((5001 * x) + (S 77 0)).toNat))), (4, zz_v (S 77 0))]) rfl ?_
      refine gd_loop (σ := Nat) (μ := fun vz => 5001 - (S 77 0).toNat - vz) (I := fun vz => (vz ≤ 5001 - (S 77 0).toNat)) (Sf := fun vz => zz_mfl (zz_u S 77 26 0) 81 (5001 * x) y (S 77 0).toNat vz) (lf := fun vz => [(0, .ref (a 77)), (1, zz_v x), (2, zz_v y), (3, zz_v (S 81 ((5001 * x) + (S 77 0)).toNat)), (4, zz_v (((S 77 0).toNat + vz : Nat) : Int))]) 0 (by omega) rfl (by rw [show (((S 77 0).toNat + 0 : Nat) : Int) = S 77 0 by omega]) (fun n hI ih51 => ?_)
      have hI0 : n ≤ 5001 - (S 77 0).toNat := hI
      refine gd_lveq (lv' := [(0, .ref (a 77)), (1, zz_v x), (2, zz_v y), (3, zz_v (S 81 ((5001 * x) + (S 77 0)).toNat)), (4, zz_v (((S 77 0).toNat + n : Nat) : Int))]) rfl ?_
      refine gd_eq (S' := zz_mfl (zz_u S 77 26 0) 81 (5001 * x) y (S 77 0).toNat n) rfl ?_
      refine gd_iload hC dX4_limit_51 (j := 4) rfl ?_
      refine gd_sipush hC dX4_limit_53 rfl ?_
      refine gd_icmp_gt hC dX4_limit_56 (tgt := 79) (by decide) ⟨by omega, by omega⟩ ⟨by decide, by decide⟩ (fun c9 => ?_) (fun c9 => ?_)
      · skip
        refine gd_iload_n hC dX4_limit_79 rfl (j := 3) rfl ?_
        have hdn : 5001 - (S 77 0).toNat = n := by omega
        exact gd_ireturn hC hr rfl hlk dX4_limit_80 (by decide) ⟨_, ⟨by omega, by omega⟩, rfl, (by rw [(z2 (by omega)).2, hdn]), (z2 (by omega)).1.symm, trivial⟩
      · skip
        refine gd_aload_n hC dX4_limit_59 rfl (j := 0) rfl ?_
        refine gd_getR hC w4 hK (ci := 4) rfl (by decide) rfl 6 (by decide) (j := 81) rfl f20 rfl dX4_limit_60 ?_
        refine gd_sipush hC dX4_limit_63 rfl ?_
        refine gd_iload_n hC dX4_limit_66 rfl (j := 1) rfl ?_
        refine gd_imul hC dX4_limit_67 ?_
        refine gd_iload hC dX4_limit_68 (j := 4) rfl ?_
        refine gd_iadd hC dX4_limit_70 ?_
        refine gd_iload_n hC dX4_limit_71 rfl (j := 2) rfl ?_
        refine gd_iast hC hK (j := ((5001 * x) + (((S 77 0).toNat + n : Nat) : Int)).toNat) rfl (by decide) (by omega) (by omega) (by decide) ⟨by omega, by omega⟩ dX4_limit_72 ?_
        refine gd_iinc hC dX4_limit_73 (j := 4) rfl (y := (((S 77 0).toNat + n : Nat) : Int) + 1) (by omega) (by decide) (lv' := [(4, zz_v ((((S 77 0).toNat + n : Nat) : Int) + 1)), (0, .ref (a 77)), (1, zz_v x), (2, zz_v y), (3, zz_v (S 81 ((5001 * x) + (S 77 0)).toNat))]) rfl ?_
        refine gd_goto hC dX4_limit_76 (tgt := 51) (by decide) ?_
        refine gd_sub [1, 2, 3, 4, 0] (lv' := [(0, .ref (a 77)), (1, zz_v x), (2, zz_v y), (3, zz_v (S 81 ((5001 * x) + (S 77 0)).toNat)), (4, zz_v ((((S 77 0).toNat + n : Nat) : Int) + 1))]) rfl ?_
        refine gd_lveq (lv' := [(0, .ref (a 77)), (1, zz_v x), (2, zz_v y), (3, zz_v (S 81 ((5001 * x) + (S 77 0)).toNat)), (4, zz_v (((S 77 0).toNat + (n + 1) : Nat) : Int))]) (by rw [show (((S 77 0).toNat + n : Nat) : Int) + 1 = (((S 77 0).toNat + (n + 1) : Nat) : Int) by omega]) ?_
        refine gd_eq (S' := zz_mfl (zz_u S 77 26 0) 81 (5001 * x) y (S 77 0).toNat (n + 1)) rfl ?_
        exact ih51 (n + 1) (by omega) (show 5001 - (S 77 0).toNat - (n + 1) < 5001 - (S 77 0).toNat - n by omega)
    · skip
      refine gd_aload_n hC dX4_limit_23 rfl (j := 0) rfl ?_
      refine gd_iconst hC dX4_limit_24 ?_
      refine gd_callVR (As := [zz_v 2]) (rest := []) hC hF (fun hR => c_X4_fails l hl9 N0 G Y a (zz_u (S) (77) (26) (0)) 2 ⟨by decide, by decide⟩) (cwV 1 hts gX4_limit_X4_fails rfl rfl rfl (by decide +kernel) ⟨by decide, by decide⟩) rfl (by decide) (ci := 4) rfl rfl rfl rfl (Nat.le_of_ble_eq_true rfl) dX4_limit_25 ⟨by decide, by decide⟩ (fun E hx => zz_xn hx) (fun q10 q10r => ?_)
      obtain ⟨q10a, q10b⟩ := id q10r
      exact gd_ireturn hC hr rfl hlk dX4_limit_28 (by decide) ⟨_, ⟨by decide, by decide⟩, rfl, (z1 (by omega)).2.symm, (z1 (by omega)).1.symm, trivial⟩
  · skip
    refine gd_eq (S' := zz_u (S) (77) (26) (1)) (by rw [if_pos (by omega)]) ?_
    refine gd_iconst hC dX4_limit_11 ?_
    exact gd_ireturn hC hr rfl hlk dX4_limit_12 (by decide) ⟨_, ⟨by decide, by decide⟩, rfl, (z0 (by omega)).2.symm, (z0 (by omega)).1.symm, trivial⟩

abbrev rm_X4_act : Room := { frames := 2, cells := 0, slots := 0, locals := 43 }
set_option maxHeartbeats 4000000 in
set_option maxRecDepth 100000 in
theorem c_X4_act (l : Launch) (hl9 : l.stackTraces = false) (N0 : Nat) (G : zz_G) (Y : zz_Y) (a : Nat → Nat) (S : zz_S) (x y w : Int) (hx : zz_R x) (hy : zz_R y) (hw : zz_R w) (hI : zz_IM S) (e1 : Int) (S1 : zz_S) (z0 : ¬ (0 ≤ x ∧ x ≤ S 77 3 - 1) → e1 = 0 ∧ S1 = zz_u (S) 77 26 1) (z1 : (0 ≤ x ∧ x ≤ S 77 3 - 1) ∧ ¬ ((0 ≤ y ∧ y ≤ 100) ∧ (0 ≤ w ∧ w ≤ 1000)) → e1 = 0 ∧ S1 = zz_u ((zz_u S 77 26 0)) 77 26 2) (z2 : (0 ≤ x ∧ x ≤ S 77 3 - 1) ∧ ((0 ≤ y ∧ y ≤ 100) ∧ (0 ≤ w ∧ w ≤ 1000)) ∧ S 77 7 = 24 → e1 = 0 ∧ S1 = zz_u ((zz_u S 77 26 0)) 77 26 3) (z3 : ((0 ≤ x ∧ x ≤ S 77 3 - 1) ∧ ((0 ≤ y ∧ y ≤ 100) ∧ (0 ≤ w ∧ w ≤ 1000)) ∧ ¬ S 77 7 = 24) ∧ zz_mtk (S 78) (S 77 2) 4 = -1 → e1 = -1 ∧ S1 = zz_u ((zz_u S 77 26 0)) 77 2 0) (z4 : ((0 ≤ x ∧ x ≤ S 77 3 - 1) ∧ ((0 ≤ y ∧ y ≤ 100) ∧ (0 ≤ w ∧ w ≤ 1000)) ∧ ¬ S 77 7 = 24) ∧ ¬ zz_mtk (S 78) (S 77 2) 4 = -1 → e1 = S 77 7 ∧ S1 = zz_u (zz_u (zz_u (zz_u (zz_u (zz_u (zz_u ((zz_u S 77 26 0)) 77 2 0) 82 ((S 77 7).toNat) (zz_mwo (S 80) (S 77 0) 10 x)) 83 ((S 77 7).toNat) (zz_mtk (S 78) (S 77 2) 4)) 84 ((S 77 7).toNat) (S 77 0)) 85 ((S 77 7).toNat) y) 86 ((S 77 7).toNat) w) 77 7 (S 77 7 + 1)) : CtR l yX4_act wsX4_act rm_X4_act 0 [.ref (a 77), zz_v x, zz_v y, zz_v w] N0 G Y a S (e1) (S1) (True) (False) (False) (False) := by
  refine Ct_.of (cc := cX4_act) (maxL := 6) (ret := (some .int)) (by decide) rfl (Nat.le_of_ble_eq_true rfl) ?_
  intro p e s m args below meth c hC hts hr hlk hex hF
  have hK := hF.2.1
  have w4 : ∀ w ∈ u_ws RX4 TX4 27, w.before args s = true := fun w h => hts w (List.mem_cons_of_mem _ (List.mem_append_right _ h))
  have f23 : (Cond.fieldLink RX4 23 "GrievancehallModel" "whoseAct" "[I").before args s = true := hts _ (by decide +kernel)
  have f26 : (Cond.fieldLink RX4 26 "GrievancehallModel" "kind" "[I").before args s = true := hts _ (by decide +kernel)
  have f29 : (Cond.fieldLink RX4 29 "GrievancehallModel" "told" "[I").before args s = true := hts _ (by decide +kernel)
  have f32 : (Cond.fieldLink RX4 32 "GrievancehallModel" "measure" "[I").before args s = true := hts _ (by decide +kernel)
  have f35 : (Cond.fieldLink RX4 35 "GrievancehallModel" "harm" "[I").before args s = true := hts _ (by decide +kernel)
  have f86 : (Cond.fieldLink RX4 86 "GrievancehallModel" "acts" "I").before args s = true := hts _ (by decide +kernel)
  have f96 : (Cond.fieldLink RX4 96 "GrievancehallModel" "letters" "I").before args s = true := hts _ (by decide +kernel)
  have f107 : (Cond.fieldLink RX4 107 "GrievancehallModel" "day" "I").before args s = true := hts _ (by decide +kernel)
  refine gd_lveq (lv' := [(0, .ref (a 77)), (1, zz_v x), (2, zz_v y), (3, zz_v w)]) rfl ?_
  obtain ⟨imd, iml, imo, ima, imc, iaf, ilm, iwh, ikd, itd, ims, ihm, ict, iwv, ipl, iab, ist, ilf, ipe, iak, ian, ihe, ifn, iav, iod⟩ := id hI
  obtain ⟨hx1, hx2⟩ := id hx
  obtain ⟨hy1, hy2⟩ := id hy
  obtain ⟨hw1, hw2⟩ := id hw
  refine gd_aload_n hC dX4_act_0 rfl (j := 0) rfl ?_
  refine gd_aload_n hC dX4_act_1 rfl (j := 0) rfl ?_
  refine gd_iload_n hC dX4_act_2 rfl (j := 1) rfl ?_
  refine gd_callVR (As := [zz_v x]) (rest := [.ref (a 77)]) hC hF (fun hR => c_X4_isOffice l hl9 N0 G Y a (S) x ⟨by omega, by omega⟩ (by omega)) (cwV 1 hts gX4_act_X4_isOffice rfl rfl rfl (by decide +kernel) ⟨by decide, by decide⟩) rfl (by decide) (ci := 4) rfl rfl rfl rfl (Nat.le_of_ble_eq_true rfl) dX4_act_3 ⟨by decide, by decide⟩ (fun E hx => zz_xn hx) (fun q1 q1r => ?_)
  obtain ⟨q1a, q1b⟩ := id q1r
  refine gd_callVR (As := [zz_v (if 0 ≤ x ∧ x ≤ S 77 3 - 1 then 1 else 0)]) (rest := []) hC hF (fun hR => c_X4_asks l hl9 N0 G Y a (S) (if 0 ≤ x ∧ x ≤ S 77 3 - 1 then 1 else 0) (by omega)) (cwV 1 hts gX4_act_X4_asks rfl rfl rfl (by decide +kernel) ⟨by decide, by decide⟩) rfl (by decide) (ci := 4) rfl rfl rfl rfl (Nat.le_of_ble_eq_true rfl) dX4_act_6 ⟨by decide, by decide⟩ (fun E hx => zz_xn hx) (fun q2 q2r => ?_)
  obtain ⟨q2a, q2b⟩ := id q2r
  refine gd_if_ne hC dX4_act_9 (tgt := 14) (by decide) ⟨by omega, by omega⟩ (fun c3 => ?_) (fun c3 => ?_)
  · skip
    refine gd_eq (S' := zz_u (S) (77) (26) (0)) (by rw [if_neg (by omega)]) ?_
    refine gd_iload_n hC dX4_act_14 rfl (j := 2) rfl ?_
    refine gd_iconst hC dX4_act_15 ?_
    refine gd_bipush hC dX4_act_16 rfl ?_
    refine gd_callSR (As := [zz_v y, zz_v 0, zz_v 100]) (rest := []) hC hF (fun hR => c_X4_in l hl9 N0 G Y a (zz_u (S) (77) (26) (0)) y 0 100 ⟨by omega, by omega⟩ ⟨by decide, by decide⟩ ⟨by decide, by decide⟩) (va_cwS 3 hts gX4_act_X4_in rfl rfl rfl (by decide +kernel) ⟨by decide, by decide⟩) rfl rfl (Nat.le_of_ble_eq_true rfl) dX4_act_18 ⟨by decide, by decide⟩ (fun E hx => zz_xn hx) (fun q4 q4r => ?_)
    obtain ⟨q4a, q4b⟩ := id q4r
    refine gd_if_eq hC dX4_act_21 (tgt := 35) (by decide) ⟨by omega, by omega⟩ (fun c5 => ?_) (fun c5 => ?_)
    · skip
      refine gd_aload_n hC dX4_act_35 rfl (j := 0) rfl ?_
      refine gd_iconst hC dX4_act_36 ?_
      refine gd_callVR (As := [zz_v 2]) (rest := []) hC hF (fun hR => c_X4_fails l hl9 N0 G Y a (zz_u (S) (77) (26) (0)) 2 ⟨by decide, by decide⟩) (cwV 1 hts gX4_act_X4_fails rfl rfl rfl (by decide +kernel) ⟨by decide, by decide⟩) rfl (by decide) (ci := 4) rfl rfl rfl rfl (Nat.le_of_ble_eq_true rfl) dX4_act_37 ⟨by decide, by decide⟩ (fun E hx => zz_xn hx) (fun q6 q6r => ?_)
      obtain ⟨q6a, q6b⟩ := id q6r
      exact gd_ireturn hC hr rfl hlk dX4_act_40 (by decide) ⟨_, ⟨by decide, by decide⟩, rfl, (z1 (by omega)).2.symm, (z1 (by omega)).1.symm, trivial⟩
    · skip
      refine gd_iload_n hC dX4_act_24 rfl (j := 3) rfl ?_
      refine gd_iconst hC dX4_act_25 ?_
      refine gd_sipush hC dX4_act_26 rfl ?_
      refine gd_callSR (As := [zz_v w, zz_v 0, zz_v 1000]) (rest := []) hC hF (fun hR => c_X4_in l hl9 N0 G Y a (zz_u (S) (77) (26) (0)) w 0 1000 ⟨by omega, by omega⟩ ⟨by decide, by decide⟩ ⟨by decide, by decide⟩) (va_cwS 3 hts gX4_act_X4_in rfl rfl rfl (by decide +kernel) ⟨by decide, by decide⟩) rfl rfl (Nat.le_of_ble_eq_true rfl) dX4_act_29 ⟨by decide, by decide⟩ (fun E hx => zz_xn hx) (fun q7 q7r => ?_)
      obtain ⟨q7a, q7b⟩ := id q7r
      refine gd_if_ne hC dX4_act_32 (tgt := 41) (by decide) ⟨by omega, by omega⟩ (fun c8 => ?_) (fun c8 => ?_)
      · skip
        refine gd_aload_n hC dX4_act_41 rfl (j := 0) rfl ?_
        refine gd_getI hC w4 hK (ci := 4) rfl (by decide) rfl 7 (by decide) rfl f86 rfl dX4_act_42 (fun r9 => ?_)
        obtain ⟨r9a, r9b⟩ := id r9
        refine gd_top (y := S 77 7) (zz_u_ne _ _ (by omega)) ?_
        rw [(zz_u_ne _ _ (by omega) : (zz_u (S) (77) (26) (0)) (77) (7) = S 77 7)] at r9a r9b
        refine gd_bipush hC dX4_act_45 rfl ?_
        refine gd_icmp_ne hC dX4_act_47 (tgt := 56) (by decide) ⟨by omega, by omega⟩ ⟨by decide, by decide⟩ (fun c10 => ?_) (fun c10 => ?_)
        · skip
          refine gd_iconst hC dX4_act_56 ?_
          refine gd_istore hC dX4_act_57 (by decide) (lv' := [(4, zz_v (-1)), (0, .ref (a 77)), (1, zz_v x), (2, zz_v y), (3, zz_v w)]) rfl ?_
          refine gd_iconst hC dX4_act_59 ?_
          refine gd_istore hC dX4_act_60 (by decide) (lv' := [(5, zz_v 0), (4, zz_v (-1)), (0, .ref (a 77)), (1, zz_v x), (2, zz_v y), (3, zz_v w)]) rfl ?_
          refine gd_sub [2, 3, 4, 5, 1, 0] (lv' := [(0, .ref (a 77)), (1, zz_v x), (2, zz_v y), (3, zz_v w), (4, zz_v (-1)), (5, zz_v 0)]) rfl ?_
          refine gd_loop (σ := Nat) (μ := fun vz => 4 - vz) (I := fun vz => (vz ≤ 4)) (Sf := fun vz => zz_u (S) (77) (26) (0)) (lf := fun vz => [(0, .ref (a 77)), (1, zz_v x), (2, zz_v y), (3, zz_v w), (4, zz_v (zz_mtk (S 78) (S 77 2) vz)), (5, zz_v (vz : Int))]) 0 (by omega) rfl rfl (fun k hI ih62 => ?_)
          have hI0 : k ≤ 4 := hI
          refine gd_lveq (lv' := [(0, .ref (a 77)), (1, zz_v x), (2, zz_v y), (3, zz_v w), (4, zz_v (zz_mtk (S 78) (S 77 2) k)), (5, zz_v (k : Int))]) rfl ?_
          refine gd_eq (S' := zz_u (S) (77) (26) (0)) rfl ?_
          have htk := zz_mtk_rng (S 78) (S 77 2) k
          refine gd_iload hC dX4_act_62 (j := 5) rfl ?_
          refine gd_iconst hC dX4_act_64 ?_
          refine gd_icmp_ge hC dX4_act_65 (tgt := 92) (by decide) ⟨by omega, by omega⟩ ⟨by decide, by decide⟩ (fun c11 => ?_) (fun c11 => ?_)
          · skip
            have hk4 : zz_mtk (S 78) (S 77 2) k = zz_mtk (S 78) (S 77 2) 4 := by rw [show k = 4 by omega]
            refine gd_aload_n hC dX4_act_92 rfl (j := 0) rfl ?_
            refine gd_iconst hC dX4_act_93 ?_
            refine gd_put hC w4 tyX4 tyX4_ok nmX4 hK (ci := 4) rfl (by decide) rfl 2 (by decide) rfl f96 rfl rfl (ty := .int) (by decide +kernel) rfl rfl ⟨by decide, by decide⟩ dX4_act_94 ?_
            refine gd_iload hC dX4_act_97 (j := 4) rfl ?_
            refine gd_iconst hC dX4_act_99 ?_
            refine gd_icmp_ne hC dX4_act_100 (tgt := 105) (by decide) ⟨by omega, by omega⟩ ⟨by decide, by decide⟩ (fun c12 => ?_) (fun c12 => ?_)
            · skip
              refine gd_aload_n hC dX4_act_105 rfl (j := 0) rfl ?_
              refine gd_getR hC w4 hK (ci := 4) rfl (by decide) rfl 8 (by decide) (j := 82) rfl f23 rfl dX4_act_106 ?_
              refine gd_aload_n hC dX4_act_109 rfl (j := 0) rfl ?_
              refine gd_getI hC w4 hK (ci := 4) rfl (by decide) rfl 7 (by decide) rfl f86 rfl dX4_act_110 (fun r13 => ?_)
              obtain ⟨r13a, r13b⟩ := id r13
              refine gd_top (y := S 77 7) ((zz_u_ne _ _ (by omega)).trans (zz_u_ne _ _ (by omega))) ?_
              rw [((zz_u_ne _ _ (by omega)).trans (zz_u_ne _ _ (by omega)) : (zz_u (zz_u (S) (77) (26) (0)) (77) (2) (0)) (77) (7) = S 77 7)] at r13a r13b
              refine gd_aload_n hC dX4_act_113 rfl (j := 0) rfl ?_
              refine gd_iload_n hC dX4_act_114 rfl (j := 1) rfl ?_
              refine gd_aload_n hC dX4_act_115 rfl (j := 0) rfl ?_
              refine gd_getI hC w4 hK (ci := 4) rfl (by decide) rfl 0 (by decide) rfl f107 rfl dX4_act_116 (fun r14 => ?_)
              obtain ⟨r14a, r14b⟩ := id r14
              refine gd_top (y := S 77 0) ((zz_u_ne _ _ (by omega)).trans (zz_u_ne _ _ (by omega))) ?_
              rw [((zz_u_ne _ _ (by omega)).trans (zz_u_ne _ _ (by omega)) : (zz_u (zz_u (S) (77) (26) (0)) (77) (2) (0)) (77) (0) = S 77 0)] at r14a r14b
              refine gd_callVR (As := [zz_v x, zz_v (S 77 0)]) (rest := [zz_v (S 77 7), .ref (a 82)]) hC hF (fun hR => c_X4_whoseOn l hl9 N0 G Y a (zz_u (zz_u (S) (77) (26) (0)) (77) (2) (0)) x (S 77 0) (by omega) (by omega) iaf) (cwV 2 hts gX4_act_X4_whoseOn rfl rfl rfl (by decide +kernel) ⟨by decide, by decide⟩) rfl (by decide) (ci := 4) rfl rfl rfl rfl (Nat.le_of_ble_eq_true rfl) dX4_act_119 ⟨by decide, by decide⟩ (fun E hx => zz_xn hx) (fun q15 q15r => ?_)
              obtain ⟨q15a, q15b⟩ := id q15r
              refine gd_top (y := zz_mwo (S 80) (S 77 0) 10 x) rfl ?_
              have q15n : zz_R (zz_mwo (S 80) (S 77 0) 10 x) := q15r
              obtain ⟨q15na, q15nb⟩ := id q15n
              refine gd_iast hC hK (j := (S 77 7).toNat) rfl (by decide) (by omega) (by omega) (by decide) ⟨by omega, by omega⟩ dX4_act_122 ?_
              refine gd_aload_n hC dX4_act_123 rfl (j := 0) rfl ?_
              refine gd_getR hC w4 hK (ci := 4) rfl (by decide) rfl 9 (by decide) (j := 83) rfl f26 rfl dX4_act_124 ?_
              refine gd_aload_n hC dX4_act_127 rfl (j := 0) rfl ?_
              refine gd_getI hC w4 hK (ci := 4) rfl (by decide) rfl 7 (by decide) rfl f86 rfl dX4_act_128 (fun r16 => ?_)
              obtain ⟨r16a, r16b⟩ := id r16
              refine gd_top (y := S 77 7) ((zz_u_ne _ _ (by omega)).trans ((zz_u_ne _ _ (by omega)).trans (zz_u_ne _ _ (by omega)))) ?_
              rw [((zz_u_ne _ _ (by omega)).trans ((zz_u_ne _ _ (by omega)).trans (zz_u_ne _ _ (by omega))) : (zz_u (zz_u (zz_u (S) (77) (26) (0)) (77) (2) (0)) (82) ((S 77 7).toNat) (zz_mwo (S 80) (S 77 0) 10 x)) (77) (7) = S 77 7)] at r16a r16b
              refine gd_iload hC dX4_act_131 (j := 4) rfl ?_
              refine gd_iast hC hK (j := (S 77 7).toNat) rfl (by decide) (by omega) (by omega) (by decide) ⟨by omega, by omega⟩ dX4_act_133 ?_
              refine gd_aload_n hC dX4_act_134 rfl (j := 0) rfl ?_
              refine gd_getR hC w4 hK (ci := 4) rfl (by decide) rfl 10 (by decide) (j := 84) rfl f29 rfl dX4_act_135 ?_
              refine gd_aload_n hC dX4_act_138 rfl (j := 0) rfl ?_
              refine gd_getI hC w4 hK (ci := 4) rfl (by decide) rfl 7 (by decide) rfl f86 rfl dX4_act_139 (fun r17 => ?_)
              obtain ⟨r17a, r17b⟩ := id r17
              refine gd_top (y := S 77 7) ((zz_u_ne _ _ (by omega)).trans ((zz_u_ne _ _ (by omega)).trans ((zz_u_ne _ _ (by omega)).trans (zz_u_ne _ _ (by omega))))) ?_
              rw [((zz_u_ne _ _ (by omega)).trans ((zz_u_ne _ _ (by omega)).trans ((zz_u_ne _ _ (by omega)).trans (zz_u_ne _ _ (by omega)))) : (zz_u (zz_u (zz_u (zz_u (S) (77) (26) (0)) (77) (2) (0)) (82) ((S 77 7).toNat) (zz_mwo (S 80) (S 77 0) 10 x)) (83) ((S 77 7).toNat) (zz_mtk (S 78) (S 77 2) k)) (77) (7) = S 77 7)] at r17a r17b
              refine gd_aload_n hC dX4_act_142 rfl (j := 0) rfl ?_
              refine gd_getI hC w4 hK (ci := 4) rfl (by decide) rfl 0 (by decide) rfl f107 rfl dX4_act_143 (fun r18 => ?_)
              obtain ⟨r18a, r18b⟩ := id r18
              refine gd_top (y := S 77 0) ((zz_u_ne _ _ (by omega)).trans ((zz_u_ne _ _ (by omega)).trans ((zz_u_ne _ _ (by omega)).trans (zz_u_ne _ _ (by omega))))) ?_
              rw [((zz_u_ne _ _ (by omega)).trans ((zz_u_ne _ _ (by omega)).trans ((zz_u_ne _ _ (by omega)).trans (zz_u_ne _ _ (by omega)))) : (zz_u (zz_u (zz_u (zz_u (S) (77) (26) (0)) (77) (2) (0)) (82) ((S 77 7).toNat) (zz_mwo (S 80) (S 77 0) 10 x)) (83) ((S 77 7).toNat) (zz_mtk (S 78) (S 77 2) k)) (77) (0) = S 77 0)] at r18a r18b
              refine gd_iast hC hK (j := (S 77 7).toNat) rfl (by decide) (by omega) (by omega) (by decide) ⟨by omega, by omega⟩ dX4_act_146 ?_
              refine gd_aload_n hC dX4_act_147 rfl (j := 0) rfl ?_
              refine gd_getR hC w4 hK (ci := 4) rfl (by decide) rfl 11 (by decide) (j := 85) rfl f32 rfl dX4_act_148 ?_
              refine gd_aload_n hC dX4_act_151 rfl (j := 0) rfl ?_
              refine gd_getI hC w4 hK (ci := 4) rfl (by decide) rfl 7 (by decide) rfl f86 rfl dX4_act_152 (fun r19 => ?_)
              obtain ⟨r19a, r19b⟩ := id r19
              refine gd_top (y := S 77 7) ((zz_u_ne _ _ (by omega)).trans ((zz_u_ne _ _ (by omega)).trans ((zz_u_ne _ _ (by omega)).trans ((zz_u_ne _ _ (by omega)).trans (zz_u_ne _ _ (by omega)))))) ?_
              rw [((zz_u_ne _ _ (by omega)).trans ((zz_u_ne _ _ (by omega)).trans ((zz_u_ne _ _ (by omega)).trans ((zz_u_ne _ _ (by omega)).trans (zz_u_ne _ _ (by omega))))) : (zz_u (zz_u (zz_u (zz_u (zz_u (S) (77) (26) (0)) (77) (2) (0)) (82) ((S 77 7).toNat) (zz_mwo (S 80) (S 77 0) 10 x)) (83) ((S 77 7).toNat) (zz_mtk (S 78) (S 77 2) k)) (84) ((S 77 7).toNat) (S 77 0)) (77) (7) = S 77 7)] at r19a r19b
              refine gd_iload_n hC dX4_act_155 rfl (j := 2) rfl ?_
              refine gd_iast hC hK (j := (S 77 7).toNat) rfl (by decide) (by omega) (by omega) (by decide) ⟨by omega, by omega⟩ dX4_act_156 ?_
              refine gd_aload_n hC dX4_act_157 rfl (j := 0) rfl ?_
              refine gd_getR hC w4 hK (ci := 4) rfl (by decide) rfl 12 (by decide) (j := 86) rfl f35 rfl dX4_act_158 ?_
              refine gd_aload_n hC dX4_act_161 rfl (j := 0) rfl ?_
              refine gd_getI hC w4 hK (ci := 4) rfl (by decide) rfl 7 (by decide) rfl f86 rfl dX4_act_162 (fun r20 => ?_)
              obtain ⟨r20a, r20b⟩ := id r20
              refine gd_top (y := S 77 7) ((zz_u_ne _ _ (by omega)).trans ((zz_u_ne _ _ (by omega)).trans ((zz_u_ne _ _ (by omega)).trans ((zz_u_ne _ _ (by omega)).trans ((zz_u_ne _ _ (by omega)).trans (zz_u_ne _ _ (by omega))))))) ?_
              rw [((zz_u_ne _ _ (by omega)).trans ((zz_u_ne _ _ (by omega)).trans ((zz_u_ne _ _ (by omega)).trans ((zz_u_ne _ _ (by omega)).trans ((zz_u_ne _ _ (by omega)).trans (zz_u_ne _ _ (by omega)))))) : (zz_u (zz_u (zz_u (zz_u (zz_u (zz_u (S) (77) (26) (0)) (77) (2) (0)) (82) ((S 77 7).toNat) (zz_mwo (S 80) (S 77 0) 10 x)) (83) ((S 77 7).toNat) (zz_mtk (S 78) (S 77 2) k)) (84) ((S 77 7).toNat) (S 77 0)) (85) ((S 77 7).toNat) (y)) (77) (7) = S 77 7)] at r20a r20b
              refine gd_iload_n hC dX4_act_165 rfl (j := 3) rfl ?_
              refine gd_iast hC hK (j := (S 77 7).toNat) rfl (by decide) (by omega) (by omega) (by decide) ⟨by omega, by omega⟩ dX4_act_166 ?_
              refine gd_aload_n hC dX4_act_167 rfl (j := 0) rfl ?_
              refine gd_dup hC dX4_act_168 rfl ?_
              refine gd_getI hC w4 hK (ci := 4) rfl (by decide) rfl 7 (by decide) rfl f86 rfl dX4_act_169 (fun r21 => ?_)
              obtain ⟨r21a, r21b⟩ := id r21
              refine gd_top (y := S 77 7) ((zz_u_ne _ _ (by omega)).trans ((zz_u_ne _ _ (by omega)).trans ((zz_u_ne _ _ (by omega)).trans ((zz_u_ne _ _ (by omega)).trans ((zz_u_ne _ _ (by omega)).trans ((zz_u_ne _ _ (by omega)).trans (zz_u_ne _ _ (by omega)))))))) ?_
              rw [((zz_u_ne _ _ (by omega)).trans ((zz_u_ne _ _ (by omega)).trans ((zz_u_ne _ _ (by omega)).trans ((zz_u_ne _ _ (by omega)).trans ((zz_u_ne _ _ (by omega)).trans ((zz_u_ne _ _ (by omega)).trans (zz_u_ne _ _ (by omega))))))) : (zz_u (zz_u (zz_u (zz_u (zz_u (zz_u (zz_u (S) (77) (26) (0)) (77) (2) (0)) (82) ((S 77 7).toNat) (zz_mwo (S 80) (S 77 0) 10 x)) (83) ((S 77 7).toNat) (zz_mtk (S 78) (S 77 2) k)) (84) ((S 77 7).toNat) (S 77 0)) (85) ((S 77 7).toNat) (y)) (86) ((S 77 7).toNat) (w)) (77) (7) = S 77 7)] at r21a r21b
              refine gd_iconst hC dX4_act_172 ?_
              refine gd_iadd hC dX4_act_173 ?_
              refine gd_put hC w4 tyX4 tyX4_ok nmX4 hK (ci := 4) rfl (by decide) rfl 7 (by decide) rfl f86 rfl rfl (ty := .int) (by decide +kernel) rfl rfl ⟨by omega, by omega⟩ dX4_act_174 ?_
              refine gd_aload_n hC dX4_act_177 rfl (j := 0) rfl ?_
              refine gd_getI hC w4 hK (ci := 4) rfl (by decide) rfl 7 (by decide) rfl f86 rfl dX4_act_178 (fun r22 => ?_)
              obtain ⟨r22a, r22b⟩ := id r22
              refine gd_top (y := (S 77 7) + 1) (zz_u_same _ _ _ _) ?_
              rw [(zz_u_same _ _ _ _ : (zz_u (zz_u (zz_u (zz_u (zz_u (zz_u (zz_u (zz_u (S) (77) (26) (0)) (77) (2) (0)) (82) ((S 77 7).toNat) (zz_mwo (S 80) (S 77 0) 10 x)) (83) ((S 77 7).toNat) (zz_mtk (S 78) (S 77 2) k)) (84) ((S 77 7).toNat) (S 77 0)) (85) ((S 77 7).toNat) (y)) (86) ((S 77 7).toNat) (w)) (77) (7) ((S 77 7) + 1)) (77) (7) = (S 77 7) + 1)] at r22a r22b
              refine gd_iconst hC dX4_act_181 ?_
              refine gd_isub hC dX4_act_182 ?_
              exact gd_ireturn hC hr rfl hlk dX4_act_183 (by decide) ⟨_, ⟨by omega, by omega⟩, rfl, (by rw [(z4 (by omega)).2, hk4]), (by rw [(z4 (by omega)).1]; omega), trivial⟩
            · skip
              refine gd_iconst hC dX4_act_103 ?_
              exact gd_ireturn hC hr rfl hlk dX4_act_104 (by decide) ⟨_, ⟨by decide, by decide⟩, rfl, (z3 (by omega)).2.symm, (z3 (by omega)).1.symm, trivial⟩
          · skip
            refine gd_aload_n hC dX4_act_68 rfl (j := 0) rfl ?_
            refine gd_iload hC dX4_act_69 (j := 5) rfl ?_
            refine gd_callVR (As := [zz_v (k : Int)]) (rest := []) hC hF (fun hR => c_X4_isTyped l hl9 N0 G Y a (zz_u (S) (77) (26) (0)) (k : Int) k rfl (by omega) (by first | exact iml | omega)) (cwV 1 hts gX4_act_X4_isTyped rfl rfl rfl (by decide +kernel) ⟨by decide, by decide⟩) rfl (by decide) (ci := 4) rfl rfl rfl rfl (Nat.le_of_ble_eq_true rfl) dX4_act_71 ⟨by decide, by decide⟩ (fun E hx => zz_xn hx) (fun q23 q23r => ?_)
            obtain ⟨q23a, q23b⟩ := id q23r
            refine gd_top (y := zz_mty (S 78) (S 77 2) k) rfl ?_
            have q23n : zz_R (zz_mty (S 78) (S 77 2) k) := q23r
            obtain ⟨q23na, q23nb⟩ := id q23n
            refine gd_if_eq hC dX4_act_74 (tgt := 82) (by decide) ⟨by omega, by omega⟩ (fun c24 => ?_) (fun c24 => ?_)
            · skip
              refine gd_iload hC dX4_act_82 (j := 4) rfl ?_
              refine gd_istore hC dX4_act_84 (by decide) (lv' := [(4, zz_v (zz_mtk (S 78) (S 77 2) k)), (0, .ref (a 77)), (1, zz_v x), (2, zz_v y), (3, zz_v w), (5, zz_v (k : Int))]) rfl ?_
              refine gd_iinc hC dX4_act_86 (j := 5) rfl (y := ((k + 1 : Nat) : Int)) (by omega) (by decide) (lv' := [(5, zz_v ((k + 1 : Nat) : Int)), (4, zz_v (zz_mtk (S 78) (S 77 2) k)), (0, .ref (a 77)), (1, zz_v x), (2, zz_v y), (3, zz_v w)]) rfl ?_
              refine gd_goto hC dX4_act_89 (tgt := 62) (by decide) ?_
              refine gd_sub [2, 3, 4, 5, 1, 0] (lv' := [(0, .ref (a 77)), (1, zz_v x), (2, zz_v y), (3, zz_v w), (4, zz_v (zz_mtk (S 78) (S 77 2) k)), (5, zz_v ((k + 1 : Nat) : Int))]) rfl ?_
              have hz : zz_mtk (S 78) (S 77 2) k = zz_mtk (S 78) (S 77 2) (k + 1) := by rw [zz_mtk]; omega
              refine gd_lveq (lv' := [(0, .ref (a 77)), (1, zz_v x), (2, zz_v y), (3, zz_v w), (4, zz_v (zz_mtk (S 78) (S 77 2) (k + 1))), (5, zz_v (((k + 1) : Nat) : Int))]) (by rw [hz]) ?_
              exact ih62 (k + 1) (by omega) (show 4 - (k + 1) < 4 - k by omega)
            · skip
              refine gd_iload hC dX4_act_77 (j := 5) rfl ?_
              refine gd_goto hC dX4_act_79 (tgt := 84) (by decide) ?_
              refine gd_istore hC dX4_act_84 (by decide) (lv' := [(4, zz_v (k : Int)), (0, .ref (a 77)), (1, zz_v x), (2, zz_v y), (3, zz_v w), (5, zz_v (k : Int))]) rfl ?_
              refine gd_iinc hC dX4_act_86 (j := 5) rfl (y := ((k + 1 : Nat) : Int)) (by omega) (by decide) (lv' := [(5, zz_v ((k + 1 : Nat) : Int)), (4, zz_v (k : Int)), (0, .ref (a 77)), (1, zz_v x), (2, zz_v y), (3, zz_v w)]) rfl ?_
              refine gd_goto hC dX4_act_89 (tgt := 62) (by decide) ?_
              refine gd_sub [2, 3, 4, 5, 1, 0] (lv' := [(0, .ref (a 77)), (1, zz_v x), (2, zz_v y), (3, zz_v w), (4, zz_v (k : Int)), (5, zz_v ((k + 1 : Nat) : Int))]) rfl ?_
              have hz : (k : Int) = zz_mtk (S 78) (S 77 2) (k + 1) := by rw [zz_mtk]; omega
              refine gd_lveq (lv' := [(0, .ref (a 77)), (1, zz_v x), (2, zz_v y), (3, zz_v w), (4, zz_v (zz_mtk (S 78) (S 77 2) (k + 1))), (5, zz_v (((k + 1) : Nat) : Int))]) (by rw [hz]) ?_
              exact ih62 (k + 1) (by omega) (show 4 - (k + 1) < 4 - k by omega)
        · skip
          refine gd_aload_n hC dX4_act_50 rfl (j := 0) rfl ?_
          refine gd_iconst hC dX4_act_51 ?_
          refine gd_callVR (As := [zz_v 3]) (rest := []) hC hF (fun hR => c_X4_fails l hl9 N0 G Y a (zz_u (S) (77) (26) (0)) 3 ⟨by decide, by decide⟩) (cwV 1 hts gX4_act_X4_fails rfl rfl rfl (by decide +kernel) ⟨by decide, by decide⟩) rfl (by decide) (ci := 4) rfl rfl rfl rfl (Nat.le_of_ble_eq_true rfl) dX4_act_52 ⟨by decide, by decide⟩ (fun E hx => zz_xn hx) (fun q25 q25r => ?_)
          obtain ⟨q25a, q25b⟩ := id q25r
          exact gd_ireturn hC hr rfl hlk dX4_act_55 (by decide) ⟨_, ⟨by decide, by decide⟩, rfl, (z2 (by omega)).2.symm, (z2 (by omega)).1.symm, trivial⟩
      · skip
        refine gd_aload_n hC dX4_act_35 rfl (j := 0) rfl ?_
        refine gd_iconst hC dX4_act_36 ?_
        refine gd_callVR (As := [zz_v 2]) (rest := []) hC hF (fun hR => c_X4_fails l hl9 N0 G Y a (zz_u (S) (77) (26) (0)) 2 ⟨by decide, by decide⟩) (cwV 1 hts gX4_act_X4_fails rfl rfl rfl (by decide +kernel) ⟨by decide, by decide⟩) rfl (by decide) (ci := 4) rfl rfl rfl rfl (Nat.le_of_ble_eq_true rfl) dX4_act_37 ⟨by decide, by decide⟩ (fun E hx => zz_xn hx) (fun q26 q26r => ?_)
        obtain ⟨q26a, q26b⟩ := id q26r
        exact gd_ireturn hC hr rfl hlk dX4_act_40 (by decide) ⟨_, ⟨by decide, by decide⟩, rfl, (z1 (by omega)).2.symm, (z1 (by omega)).1.symm, trivial⟩
  · skip
    refine gd_eq (S' := zz_u (S) (77) (26) (1)) (by rw [if_pos (by omega)]) ?_
    refine gd_iconst hC dX4_act_12 ?_
    exact gd_ireturn hC hr rfl hlk dX4_act_13 (by decide) ⟨_, ⟨by decide, by decide⟩, rfl, (z0 (by omega)).2.symm, (z0 (by omega)).1.symm, trivial⟩

abbrev rm_X4_court : Room := { frames := 2, cells := 0, slots := 0, locals := 43 }
set_option maxHeartbeats 4000000 in
set_option maxRecDepth 100000 in
theorem c_X4_court (l : Launch) (hl9 : l.stackTraces = false) (N0 : Nat) (G : zz_G) (Y : zz_Y) (a : Nat → Nat) (S : zz_S) (x y : Int) (hx : zz_R x) (hy : y = 0 ∨ y = 1) (hI : zz_IM S) (e1 : Int) (S1 : zz_S) (z0 : ¬ (0 ≤ x ∧ x ≤ S 77 7 - 1) → e1 = 0 ∧ S1 = zz_u (S) 77 26 1) (z1 : (0 ≤ x ∧ x ≤ S 77 7 - 1) → e1 = S 87 x.toNat ∧ S1 = zz_u ((zz_u S 77 26 0)) 87 x.toNat y) : CtR l yX4_court wsX4_court rm_X4_court 0 [.ref (a 77), zz_v x, zz_v y] N0 G Y a S (e1) (S1) (True) (False) (False) (False) := by
  refine Ct_.of (cc := cX4_court) (maxL := 4) (ret := (some .boolean)) (by decide) rfl (Nat.le_of_ble_eq_true rfl) ?_
  intro p e s m args below meth c hC hts hr hlk hex hF
  have hK := hF.2.1
  have w4 : ∀ w ∈ u_ws RX4 TX4 27, w.before args s = true := fun w h => hts w (List.mem_cons_of_mem _ (List.mem_append_right _ h))
  have f38 : (Cond.fieldLink RX4 38 "GrievancehallModel" "isInCourt" "[Z").before args s = true := hts _ (by decide +kernel)
  refine gd_lveq (lv' := [(0, .ref (a 77)), (1, zz_v x), (2, zz_v y)]) rfl ?_
  obtain ⟨imd, iml, imo, ima, imc, iaf, ilm, iwh, ikd, itd, ims, ihm, ict, iwv, ipl, iab, ist, ilf, ipe, iak, ian, ihe, ifn, iav, iod⟩ := id hI
  obtain ⟨hx1, hx2⟩ := id hx
  refine gd_aload_n hC dX4_court_0 rfl (j := 0) rfl ?_
  refine gd_aload_n hC dX4_court_1 rfl (j := 0) rfl ?_
  refine gd_iload_n hC dX4_court_2 rfl (j := 1) rfl ?_
  refine gd_callVR (As := [zz_v x]) (rest := [.ref (a 77)]) hC hF (fun hR => c_X4_isAct l hl9 N0 G Y a (S) x ⟨by omega, by omega⟩ (by omega)) (cwV 1 hts gX4_court_X4_isAct rfl rfl rfl (by decide +kernel) ⟨by decide, by decide⟩) rfl (by decide) (ci := 4) rfl rfl rfl rfl (Nat.le_of_ble_eq_true rfl) dX4_court_3 ⟨by decide, by decide⟩ (fun E hx => zz_xn hx) (fun q1 q1r => ?_)
  obtain ⟨q1a, q1b⟩ := id q1r
  refine gd_callVR (As := [zz_v (if 0 ≤ x ∧ x ≤ S 77 7 - 1 then 1 else 0)]) (rest := []) hC hF (fun hR => c_X4_asks l hl9 N0 G Y a (S) (if 0 ≤ x ∧ x ≤ S 77 7 - 1 then 1 else 0) (by omega)) (cwV 1 hts gX4_court_X4_asks rfl rfl rfl (by decide +kernel) ⟨by decide, by decide⟩) rfl (by decide) (ci := 4) rfl rfl rfl rfl (Nat.le_of_ble_eq_true rfl) dX4_court_6 ⟨by decide, by decide⟩ (fun E hx => zz_xn hx) (fun q2 q2r => ?_)
  obtain ⟨q2a, q2b⟩ := id q2r
  refine gd_if_ne hC dX4_court_9 (tgt := 14) (by decide) ⟨by omega, by omega⟩ (fun c3 => ?_) (fun c3 => ?_)
  · skip
    refine gd_eq (S' := zz_u (S) (77) (26) (0)) (by rw [if_neg (by omega)]) ?_
    refine gd_aload_n hC dX4_court_14 rfl (j := 0) rfl ?_
    refine gd_getR hC w4 hK (ci := 4) rfl (by decide) rfl 13 (by decide) (j := 87) rfl f38 rfl dX4_court_15 ?_
    refine gd_iload_n hC dX4_court_18 rfl (j := 1) rfl ?_
    refine gd_zald hC hK (j := x.toNat) rfl (by decide) (by omega) (by omega) (by decide) dX4_court_19 (fun r4 => ?_)
    obtain ⟨r4a, r4b⟩ := id r4
    refine gd_top (y := S 87 x.toNat) (zz_u_ne _ _ (by omega)) ?_
    rw [(zz_u_ne _ _ (by omega) : (zz_u (S) (77) (26) (0)) (87) (x.toNat) = S 87 x.toNat)] at r4a r4b
    have hict_ := ict x.toNat (by omega)
    refine gd_istore_n hC dX4_court_20 rfl (by decide) (lv' := [(3, zz_v (S 87 x.toNat)), (0, .ref (a 77)), (1, zz_v x), (2, zz_v y)]) rfl ?_
    refine gd_aload_n hC dX4_court_21 rfl (j := 1) rfl ?_
    refine gd_getR hC w4 hK (ci := 4) rfl (by decide) rfl 13 (by decide) (j := 87) rfl f38 rfl dX4_court_22 ?_
    refine gd_iload_n hC dX4_court_25 rfl (j := 2) rfl ?_
    refine gd_iload_n hC dX4_court_26 rfl (j := 3) rfl ?_
    refine gd_zast hC hK (j := x.toNat) rfl (by decide) (by omega) (by omega) (by decide) ⟨by omega, by omega⟩ (zz_nz (by omega)) dX4_court_27 ?_
    refine gd_iload_n hC dX4_court_28 rfl (j := 0) rfl ?_
    exact gd_ireturn hC hr (zz_nb (by omega)) hlk dX4_court_29 (by decide) ⟨_, ⟨by omega, by omega⟩, rfl, (z1 (by omega)).2.symm, (z1 (by omega)).1.symm, trivial⟩
  · skip
    refine gd_eq (S' := zz_u (S) (77) (26) (1)) (by rw [if_pos (by omega)]) ?_
    refine gd_iconst hC dX4_court_12 ?_
    exact gd_ireturn hC hr (zz_nb (by omega)) hlk dX4_court_13 (by decide) ⟨_, ⟨by decide, by decide⟩, rfl, (z0 (by omega)).2.symm, (z0 (by omega)).1.symm, trivial⟩

abbrev rm_X4_waive : Room := { frames := 2, cells := 0, slots := 0, locals := 43 }
set_option maxHeartbeats 4000000 in
set_option maxRecDepth 100000 in
theorem c_X4_waive (l : Launch) (hl9 : l.stackTraces = false) (N0 : Nat) (G : zz_G) (Y : zz_Y) (a : Nat → Nat) (S : zz_S) (x y : Int) (hx : zz_R x) (hy : y = 0 ∨ y = 1) (hI : zz_IM S) (e1 : Int) (S1 : zz_S) (z0 : ¬ (0 ≤ x ∧ x ≤ S 77 7 - 1) → e1 = 0 ∧ S1 = zz_u (S) 77 26 1) (z1 : (0 ≤ x ∧ x ≤ S 77 7 - 1) → e1 = S 88 x.toNat ∧ S1 = zz_u ((zz_u S 77 26 0)) 88 x.toNat y) : CtR l yX4_waive wsX4_waive rm_X4_waive 0 [.ref (a 77), zz_v x, zz_v y] N0 G Y a S (e1) (S1) (True) (False) (False) (False) := by
  refine Ct_.of (cc := cX4_waive) (maxL := 4) (ret := (some .boolean)) (by decide) rfl (Nat.le_of_ble_eq_true rfl) ?_
  intro p e s m args below meth c hC hts hr hlk hex hF
  have hK := hF.2.1
  have w4 : ∀ w ∈ u_ws RX4 TX4 27, w.before args s = true := fun w h => hts w (List.mem_cons_of_mem _ (List.mem_append_right _ h))
  have f42 : (Cond.fieldLink RX4 42 "GrievancehallModel" "isWaived" "[Z").before args s = true := hts _ (by decide +kernel)
  refine gd_lveq (lv' := [(0, .ref (a 77)), (1, zz_v x), (2, zz_v y)]) rfl ?_
  obtain ⟨imd, iml, imo, ima, imc, iaf, ilm, iwh, ikd, itd, ims, ihm, ict, iwv, ipl, iab, ist, ilf, ipe, iak, ian, ihe, ifn, iav, iod⟩ := id hI
  obtain ⟨hx1, hx2⟩ := id hx
  refine gd_aload_n hC dX4_waive_0 rfl (j := 0) rfl ?_
  refine gd_aload_n hC dX4_waive_1 rfl (j := 0) rfl ?_
  refine gd_iload_n hC dX4_waive_2 rfl (j := 1) rfl ?_
  refine gd_callVR (As := [zz_v x]) (rest := [.ref (a 77)]) hC hF (fun hR => c_X4_isAct l hl9 N0 G Y a (S) x ⟨by omega, by omega⟩ (by omega)) (cwV 1 hts gX4_waive_X4_isAct rfl rfl rfl (by decide +kernel) ⟨by decide, by decide⟩) rfl (by decide) (ci := 4) rfl rfl rfl rfl (Nat.le_of_ble_eq_true rfl) dX4_waive_3 ⟨by decide, by decide⟩ (fun E hx => zz_xn hx) (fun q1 q1r => ?_)
  obtain ⟨q1a, q1b⟩ := id q1r
  refine gd_callVR (As := [zz_v (if 0 ≤ x ∧ x ≤ S 77 7 - 1 then 1 else 0)]) (rest := []) hC hF (fun hR => c_X4_asks l hl9 N0 G Y a (S) (if 0 ≤ x ∧ x ≤ S 77 7 - 1 then 1 else 0) (by omega)) (cwV 1 hts gX4_waive_X4_asks rfl rfl rfl (by decide +kernel) ⟨by decide, by decide⟩) rfl (by decide) (ci := 4) rfl rfl rfl rfl (Nat.le_of_ble_eq_true rfl) dX4_waive_6 ⟨by decide, by decide⟩ (fun E hx => zz_xn hx) (fun q2 q2r => ?_)
  obtain ⟨q2a, q2b⟩ := id q2r
  refine gd_if_ne hC dX4_waive_9 (tgt := 14) (by decide) ⟨by omega, by omega⟩ (fun c3 => ?_) (fun c3 => ?_)
  · skip
    refine gd_eq (S' := zz_u (S) (77) (26) (0)) (by rw [if_neg (by omega)]) ?_
    refine gd_aload_n hC dX4_waive_14 rfl (j := 0) rfl ?_
    refine gd_getR hC w4 hK (ci := 4) rfl (by decide) rfl 14 (by decide) (j := 88) rfl f42 rfl dX4_waive_15 ?_
    refine gd_iload_n hC dX4_waive_18 rfl (j := 1) rfl ?_
    refine gd_zald hC hK (j := x.toNat) rfl (by decide) (by omega) (by omega) (by decide) dX4_waive_19 (fun r4 => ?_)
    obtain ⟨r4a, r4b⟩ := id r4
    refine gd_top (y := S 88 x.toNat) (zz_u_ne _ _ (by omega)) ?_
    rw [(zz_u_ne _ _ (by omega) : (zz_u (S) (77) (26) (0)) (88) (x.toNat) = S 88 x.toNat)] at r4a r4b
    have hiwv_ := iwv x.toNat (by omega)
    refine gd_istore_n hC dX4_waive_20 rfl (by decide) (lv' := [(3, zz_v (S 88 x.toNat)), (0, .ref (a 77)), (1, zz_v x), (2, zz_v y)]) rfl ?_
    refine gd_aload_n hC dX4_waive_21 rfl (j := 1) rfl ?_
    refine gd_getR hC w4 hK (ci := 4) rfl (by decide) rfl 14 (by decide) (j := 88) rfl f42 rfl dX4_waive_22 ?_
    refine gd_iload_n hC dX4_waive_25 rfl (j := 2) rfl ?_
    refine gd_iload_n hC dX4_waive_26 rfl (j := 3) rfl ?_
    refine gd_zast hC hK (j := x.toNat) rfl (by decide) (by omega) (by omega) (by decide) ⟨by omega, by omega⟩ (zz_nz (by omega)) dX4_waive_27 ?_
    refine gd_iload_n hC dX4_waive_28 rfl (j := 0) rfl ?_
    exact gd_ireturn hC hr (zz_nb (by omega)) hlk dX4_waive_29 (by decide) ⟨_, ⟨by omega, by omega⟩, rfl, (z1 (by omega)).2.symm, (z1 (by omega)).1.symm, trivial⟩
  · skip
    refine gd_eq (S' := zz_u (S) (77) (26) (1)) (by rw [if_pos (by omega)]) ?_
    refine gd_iconst hC dX4_waive_12 ?_
    exact gd_ireturn hC hr (zz_nb (by omega)) hlk dX4_waive_13 (by decide) ⟨_, ⟨by decide, by decide⟩, rfl, (z0 (by omega)).2.symm, (z0 (by omega)).1.symm, trivial⟩

abbrev rm_X4_plea : Room := { frames := 3, cells := 0, slots := 0, locals := 65 }
set_option maxHeartbeats 4000000 in
set_option maxRecDepth 100000 in
theorem c_X4_plea (l : Launch) (hl9 : l.stackTraces = false) (N0 : Nat) (G : zz_G) (Y : zz_Y) (a : Nat → Nat) (S : zz_S) (x y : Int) (hx : zz_R x) (hy : zz_R y) (hI : zz_IM S) (S1 : zz_S) (z0 : ¬ ((0 ≤ x ∧ x ≤ 9) ∧ 0 ≤ y ∧ y ≤ S 77 7 - 1) → S1 = zz_u (S) 77 26 1) (z1 : ((0 ≤ x ∧ x ≤ 9) ∧ 0 ≤ y ∧ y ≤ S 77 7 - 1) ∧ ¬ S 90 (10 * y + x).toNat = -1 → S1 = zz_u ((zz_u S 77 26 0)) 77 26 2) (z2 : ((0 ≤ x ∧ x ≤ 9) ∧ 0 ≤ y ∧ y ≤ S 77 7 - 1) ∧ S 90 (10 * y + x).toNat = -1 → S1 = zz_u ((zz_u S 77 26 0)) 90 ((10 * y + x).toNat) (S 77 0)) : CtN l yX4_plea wsX4_plea rm_X4_plea 0 [.ref (a 77), zz_v x, zz_v y] N0 G Y a S (S1) (True) (False) (False) (False) := by
  refine Ct_.of (cc := cX4_plea) (maxL := 3) (ret := none) (by decide) rfl (Nat.le_of_ble_eq_true rfl) ?_
  intro p e s m args below meth c hC hts hr hlk hex hF
  have hK := hF.2.1
  have w4 : ∀ w ∈ u_ws RX4 TX4 27, w.before args s = true := fun w h => hts w (List.mem_cons_of_mem _ (List.mem_append_right _ h))
  have f48 : (Cond.fieldLink RX4 48 "GrievancehallModel" "pleaded" "[I").before args s = true := hts _ (by decide +kernel)
  have f75 : (Cond.fieldLink RX4 75 "GrievancehallModel" "thrown" "I").before args s = true := hts _ (by decide +kernel)
  have f107 : (Cond.fieldLink RX4 107 "GrievancehallModel" "day" "I").before args s = true := hts _ (by decide +kernel)
  refine gd_lveq (lv' := [(0, .ref (a 77)), (1, zz_v x), (2, zz_v y)]) rfl ?_
  obtain ⟨imd, iml, imo, ima, imc, iaf, ilm, iwh, ikd, itd, ims, ihm, ict, iwv, ipl, iab, ist, ilf, ipe, iak, ian, ihe, ifn, iav, iod⟩ := id hI
  obtain ⟨hx1, hx2⟩ := id hx
  obtain ⟨hy1, hy2⟩ := id hy
  refine gd_aload_n hC dX4_plea_0 rfl (j := 0) rfl ?_
  refine gd_aload_n hC dX4_plea_1 rfl (j := 0) rfl ?_
  refine gd_iload_n hC dX4_plea_2 rfl (j := 1) rfl ?_
  refine gd_iload_n hC dX4_plea_3 rfl (j := 2) rfl ?_
  refine gd_callVR (As := [zz_v x, zz_v y]) (rest := [.ref (a 77)]) hC hF (fun hR => c_X4_isThere l hl9 N0 G Y a (S) x y ⟨by omega, by omega⟩ ⟨by omega, by omega⟩ (by omega)) (cwV 2 hts gX4_plea_X4_isThere rfl rfl rfl (by decide +kernel) ⟨by decide, by decide⟩) rfl (by decide) (ci := 4) rfl rfl rfl rfl (Nat.le_of_ble_eq_true rfl) dX4_plea_4 ⟨by decide, by decide⟩ (fun E hx => zz_xn hx) (fun q1 q1r => ?_)
  obtain ⟨q1a, q1b⟩ := id q1r
  refine gd_callVR (As := [zz_v (if (0 ≤ x ∧ x ≤ 9) ∧ 0 ≤ y ∧ y ≤ S 77 7 - 1 then 1 else 0)]) (rest := []) hC hF (fun hR => c_X4_asks l hl9 N0 G Y a (S) (if (0 ≤ x ∧ x ≤ 9) ∧ 0 ≤ y ∧ y ≤ S 77 7 - 1 then 1 else 0) (by omega)) (cwV 1 hts gX4_plea_X4_asks rfl rfl rfl (by decide +kernel) ⟨by decide, by decide⟩) rfl (by decide) (ci := 4) rfl rfl rfl rfl (Nat.le_of_ble_eq_true rfl) dX4_plea_7 ⟨by decide, by decide⟩ (fun E hx => zz_xn hx) (fun q2 q2r => ?_)
  obtain ⟨q2a, q2b⟩ := id q2r
  refine gd_if_ne hC dX4_plea_10 (tgt := 14) (by decide) ⟨by omega, by omega⟩ (fun c3 => ?_) (fun c3 => ?_)
  · skip
    refine gd_eq (S' := zz_u (S) (77) (26) (0)) (by rw [if_neg (by omega)]) ?_
    refine gd_aload_n hC dX4_plea_14 rfl (j := 0) rfl ?_
    refine gd_getR hC w4 hK (ci := 4) rfl (by decide) rfl 16 (by decide) (j := 90) rfl f48 rfl dX4_plea_15 ?_
    refine gd_bipush hC dX4_plea_18 rfl ?_
    refine gd_iload_n hC dX4_plea_20 rfl (j := 2) rfl ?_
    refine gd_imul hC dX4_plea_21 ?_
    refine gd_iload_n hC dX4_plea_22 rfl (j := 1) rfl ?_
    refine gd_iadd hC dX4_plea_23 ?_
    refine gd_iald hC hK (j := ((10 * y) + x).toNat) rfl (by decide) (by omega) (by omega) (by decide) dX4_plea_24 (fun r4 => ?_)
    obtain ⟨r4a, r4b⟩ := id r4
    refine gd_top (y := S 90 (((10 * y) + x).toNat)) (zz_u_ne _ _ (by omega)) ?_
    rw [(zz_u_ne _ _ (by omega) : (zz_u (S) (77) (26) (0)) (90) (((10 * y) + x).toNat) = S 90 (((10 * y) + x).toNat))] at r4a r4b
    refine gd_iconst hC dX4_plea_25 ?_
    refine gd_icmp_eq hC dX4_plea_26 (tgt := 35) (by decide) ⟨by omega, by omega⟩ ⟨by decide, by decide⟩ (fun c5 => ?_) (fun c5 => ?_)
    · skip
      refine gd_aload_n hC dX4_plea_35 rfl (j := 0) rfl ?_
      refine gd_getR hC w4 hK (ci := 4) rfl (by decide) rfl 16 (by decide) (j := 90) rfl f48 rfl dX4_plea_36 ?_
      refine gd_bipush hC dX4_plea_39 rfl ?_
      refine gd_iload_n hC dX4_plea_41 rfl (j := 2) rfl ?_
      refine gd_imul hC dX4_plea_42 ?_
      refine gd_iload_n hC dX4_plea_43 rfl (j := 1) rfl ?_
      refine gd_iadd hC dX4_plea_44 ?_
      refine gd_aload_n hC dX4_plea_45 rfl (j := 0) rfl ?_
      refine gd_getI hC w4 hK (ci := 4) rfl (by decide) rfl 0 (by decide) rfl f107 rfl dX4_plea_46 (fun r6 => ?_)
      obtain ⟨r6a, r6b⟩ := id r6
      refine gd_top (y := S 77 0) (zz_u_ne _ _ (by omega)) ?_
      rw [(zz_u_ne _ _ (by omega) : (zz_u (S) (77) (26) (0)) (77) (0) = S 77 0)] at r6a r6b
      refine gd_iast hC hK (j := ((10 * y) + x).toNat) rfl (by decide) (by omega) (by omega) (by decide) ⟨by omega, by omega⟩ dX4_plea_49 ?_
      exact gd_return hC hr hlk dX4_plea_50 (by decide) ⟨rfl, (z2 (by omega)).symm, trivial⟩
    · skip
      refine gd_aload_n hC dX4_plea_29 rfl (j := 0) rfl ?_
      refine gd_iconst hC dX4_plea_30 ?_
      refine gd_put hC w4 tyX4 tyX4_ok nmX4 hK (ci := 4) rfl (by decide) rfl 26 (by decide) rfl f75 rfl rfl (ty := .int) (by decide +kernel) rfl rfl ⟨by decide, by decide⟩ dX4_plea_31 ?_
      exact gd_return hC hr hlk dX4_plea_34 (by decide) ⟨rfl, (z1 (by omega)).symm, trivial⟩
  · skip
    refine gd_eq (S' := zz_u (S) (77) (26) (1)) (by rw [if_pos (by omega)]) ?_
    exact gd_return hC hr hlk dX4_plea_13 (by decide) ⟨rfl, (z0 (by omega)).symm, trivial⟩

abbrev rm_X4_bar : Room := { frames := 3, cells := 0, slots := 0, locals := 65 }
set_option maxHeartbeats 4000000 in
set_option maxRecDepth 100000 in
theorem c_X4_bar (l : Launch) (hl9 : l.stackTraces = false) (N0 : Nat) (G : zz_G) (Y : zz_Y) (a : Nat → Nat) (S : zz_S) (x y : Int) (hx : zz_R x) (hy : zz_R y) (hI : zz_IM S) (e1 : Int) (S1 : zz_S) (z0 : ¬ ((0 ≤ x ∧ x ≤ 9) ∧ 0 ≤ y ∧ y ≤ S 77 7 - 1) → e1 = 0 ∧ S1 = zz_u (S) 77 26 1) (z1 : ((0 ≤ x ∧ x ≤ 9) ∧ 0 ≤ y ∧ y ≤ S 77 7 - 1) → e1 = zz_mba (S 90) (S 87) (S 88) (S 84) (S 77 0) x.toNat y.toNat ∧ S1 = (zz_u S 77 26 0)) : CtR l yX4_bar wsX4_bar rm_X4_bar 0 [.ref (a 77), zz_v x, zz_v y] N0 G Y a S (e1) (S1) (True) (False) (False) (False) := by
  refine Ct_.of (cc := cX4_bar) (maxL := 3) (ret := (some .int)) (by decide) rfl (Nat.le_of_ble_eq_true rfl) ?_
  intro p e s m args below meth c hC hts hr hlk hex hF
  have hK := hF.2.1
  refine gd_lveq (lv' := [(0, .ref (a 77)), (1, zz_v x), (2, zz_v y)]) rfl ?_
  obtain ⟨imd, iml, imo, ima, imc, iaf, ilm, iwh, ikd, itd, ims, ihm, ict, iwv, ipl, iab, ist, ilf, ipe, iak, ian, ihe, ifn, iav, iod⟩ := id hI
  obtain ⟨hx1, hx2⟩ := id hx
  obtain ⟨hy1, hy2⟩ := id hy
  refine gd_aload_n hC dX4_bar_0 rfl (j := 0) rfl ?_
  refine gd_aload_n hC dX4_bar_1 rfl (j := 0) rfl ?_
  refine gd_iload_n hC dX4_bar_2 rfl (j := 1) rfl ?_
  refine gd_iload_n hC dX4_bar_3 rfl (j := 2) rfl ?_
  refine gd_callVR (As := [zz_v x, zz_v y]) (rest := [.ref (a 77)]) hC hF (fun hR => c_X4_isThere l hl9 N0 G Y a (S) x y ⟨by omega, by omega⟩ ⟨by omega, by omega⟩ (by omega)) (cwV 2 hts gX4_bar_X4_isThere rfl rfl rfl (by decide +kernel) ⟨by decide, by decide⟩) rfl (by decide) (ci := 4) rfl rfl rfl rfl (Nat.le_of_ble_eq_true rfl) dX4_bar_4 ⟨by decide, by decide⟩ (fun E hx => zz_xn hx) (fun q1 q1r => ?_)
  obtain ⟨q1a, q1b⟩ := id q1r
  refine gd_callVR (As := [zz_v (if (0 ≤ x ∧ x ≤ 9) ∧ 0 ≤ y ∧ y ≤ S 77 7 - 1 then 1 else 0)]) (rest := []) hC hF (fun hR => c_X4_asks l hl9 N0 G Y a (S) (if (0 ≤ x ∧ x ≤ 9) ∧ 0 ≤ y ∧ y ≤ S 77 7 - 1 then 1 else 0) (by omega)) (cwV 1 hts gX4_bar_X4_asks rfl rfl rfl (by decide +kernel) ⟨by decide, by decide⟩) rfl (by decide) (ci := 4) rfl rfl rfl rfl (Nat.le_of_ble_eq_true rfl) dX4_bar_7 ⟨by decide, by decide⟩ (fun E hx => zz_xn hx) (fun q2 q2r => ?_)
  obtain ⟨q2a, q2b⟩ := id q2r
  refine gd_if_eq hC dX4_bar_10 (tgt := 22) (by decide) ⟨by omega, by omega⟩ (fun c3 => ?_) (fun c3 => ?_)
  · skip
    refine gd_eq (S' := zz_u (S) (77) (26) (1)) (by rw [if_pos (by omega)]) ?_
    refine gd_iconst hC dX4_bar_22 ?_
    exact gd_ireturn hC hr rfl hlk dX4_bar_23 (by decide) ⟨_, ⟨by decide, by decide⟩, rfl, (z0 (by omega)).2.symm, (z0 (by omega)).1.symm, trivial⟩
  · skip
    refine gd_eq (S' := zz_u (S) (77) (26) (0)) (by rw [if_neg (by omega)]) ?_
    refine gd_aload_n hC dX4_bar_13 rfl (j := 0) rfl ?_
    refine gd_iload_n hC dX4_bar_14 rfl (j := 1) rfl ?_
    refine gd_iload_n hC dX4_bar_15 rfl (j := 2) rfl ?_
    refine gd_callVR (As := [zz_v x, zz_v y]) (rest := []) hC hF (fun hR => c_X4_barOf l hl9 N0 G Y a (zz_u (S) (77) (26) (0)) x y x.toNat y.toNat (by omega) (by omega) (by omega) (by omega) imd ipl itd) (cwV 2 hts gX4_bar_X4_barOf rfl rfl rfl (by decide +kernel) ⟨by decide, by decide⟩) rfl (by decide) (ci := 4) rfl rfl rfl rfl (Nat.le_of_ble_eq_true rfl) dX4_bar_16 ⟨by decide, by decide⟩ (fun E hx => zz_xn hx) (fun q4 q4r => ?_)
    obtain ⟨q4a, q4b⟩ := id q4r
    refine gd_top (y := zz_mba (S 90) (S 87) (S 88) (S 84) (S 77 0) x.toNat y.toNat) rfl ?_
    have q4n : zz_R (zz_mba (S 90) (S 87) (S 88) (S 84) (S 77 0) x.toNat y.toNat) := q4r
    obtain ⟨q4na, q4nb⟩ := id q4n
    have q4F : 0 ≤ zz_mba (S 90) (S 87) (S 88) (S 84) (S 77 0) x.toNat y.toNat ∧ zz_mba (S 90) (S 87) (S 88) (S 84) (S 77 0) x.toNat y.toNat ≤ 3 := q4
    refine gd_goto hC dX4_bar_19 (tgt := 23) (by decide) ?_
    exact gd_ireturn hC hr rfl hlk dX4_bar_23 (by decide) ⟨_, ⟨by omega, by omega⟩, rfl, (z1 (by omega)).2.symm, (z1 (by omega)).1.symm, trivial⟩

abbrev rm_X4_complain : Room := { frames := 3, cells := 0, slots := 0, locals := 65 }
set_option maxHeartbeats 4000000 in
set_option maxRecDepth 100000 in
theorem c_X4_complain (l : Launch) (hl9 : l.stackTraces = false) (N0 : Nat) (G : zz_G) (Y : zz_Y) (a : Nat → Nat) (S : zz_S) (x y : Int) (hx : zz_R x) (hy : zz_R y) (hI : zz_IM S) (e1 : Int) (S1 : zz_S) (z0 : ¬ ((0 ≤ x ∧ x ≤ 9) ∧ 0 ≤ y ∧ y ≤ S 77 7 - 1) → e1 = 0 ∧ S1 = zz_u (S) 77 26 1) (z1 : ((0 ≤ x ∧ x ≤ 9) ∧ 0 ≤ y ∧ y ≤ S 77 7 - 1) ∧ (¬ zz_mba (S 90) (S 87) (S 88) (S 84) (S 77 0) x.toNat y.toNat = 0 ∨ (zz_mcj (S 91) (S 92) y (S 77 17).toNat = -1 ∧ S 77 17 = 16)) → e1 = 0 ∧ S1 = zz_u ((zz_u S 77 26 0)) 77 26 2) (z2 : ((0 ≤ x ∧ x ≤ 9) ∧ 0 ≤ y ∧ y ≤ S 77 7 - 1) ∧ zz_mba (S 90) (S 87) (S 88) (S 84) (S 77 0) x.toNat y.toNat = 0 ∧ ¬ zz_mcj (S 91) (S 92) y (S 77 17).toNat = -1 → e1 = zz_mcj (S 91) (S 92) y (S 77 17).toNat ∧ S1 = zz_u ((zz_u S 77 26 0)) 94 ((zz_mcj (S 91) (S 92) y (S 77 17).toNat).toNat) ((S 94 (zz_mcj (S 91) (S 92) y (S 77 17).toNat).toNat).toNat ||| 2 ^ x.toNat : Nat)) (z3 : ((0 ≤ x ∧ x ≤ 9) ∧ 0 ≤ y ∧ y ≤ S 77 7 - 1) ∧ zz_mba (S 90) (S 87) (S 88) (S 84) (S 77 0) x.toNat y.toNat = 0 ∧ zz_mcj (S 91) (S 92) y (S 77 17).toNat = -1 ∧ ¬ S 77 17 = 16 → e1 = S 77 17 ∧ S1 = zz_u (zz_u (zz_u (zz_u (zz_u (zz_u (zz_u ((zz_u S 77 26 0)) 91 ((S 77 17).toNat) y) 92 ((S 77 17).toNat) 0) 93 ((S 77 17).toNat) 60) 95 ((S 77 17).toNat) (-1)) 98 ((S 77 17).toNat) (-1)) 77 17 (S 77 17 + 1)) 94 ((S 77 17).toNat) ((S 94 (S 77 17).toNat).toNat ||| 2 ^ x.toNat : Nat)) : CtR l yX4_complain wsX4_complain rm_X4_complain 0 [.ref (a 77), zz_v x, zz_v y] N0 G Y a S (e1) (S1) (True) (False) (False) (False) := by
  refine Ct_.of (cc := cX4_complain) (maxL := 4) (ret := (some .int)) (by decide) rfl (Nat.le_of_ble_eq_true rfl) ?_
  intro p e s m args below meth c hC hts hr hlk hex hF
  have hK := hF.2.1
  have w4 : ∀ w ∈ u_ws RX4 TX4 27, w.before args s = true := fun w h => hts w (List.mem_cons_of_mem _ (List.mem_append_right _ h))
  have f51 : (Cond.fieldLink RX4 51 "GrievancehallModel" "about" "[I").before args s = true := hts _ (by decide +kernel)
  have f54 : (Cond.fieldLink RX4 54 "GrievancehallModel" "state" "[I").before args s = true := hts _ (by decide +kernel)
  have f57 : (Cond.fieldLink RX4 57 "GrievancehallModel" "left" "[I").before args s = true := hts _ (by decide +kernel)
  have f60 : (Cond.fieldLink RX4 60 "GrievancehallModel" "people" "[I").before args s = true := hts _ (by decide +kernel)
  have f63 : (Cond.fieldLink RX4 63 "GrievancehallModel" "asked" "[I").before args s = true := hts _ (by decide +kernel)
  have f72 : (Cond.fieldLink RX4 72 "GrievancehallModel" "finding" "[I").before args s = true := hts _ (by decide +kernel)
  have f89 : (Cond.fieldLink RX4 89 "GrievancehallModel" "complaints" "I").before args s = true := hts _ (by decide +kernel)
  refine gd_lveq (lv' := [(0, .ref (a 77)), (1, zz_v x), (2, zz_v y)]) rfl ?_
  obtain ⟨imd, iml, imo, ima, imc, iaf, ilm, iwh, ikd, itd, ims, ihm, ict, iwv, ipl, iab, ist, ilf, ipe, iak, ian, ihe, ifn, iav, iod⟩ := id hI
  obtain ⟨hx1, hx2⟩ := id hx
  obtain ⟨hy1, hy2⟩ := id hy
  refine gd_aload_n hC dX4_complain_0 rfl (j := 0) rfl ?_
  refine gd_aload_n hC dX4_complain_1 rfl (j := 0) rfl ?_
  refine gd_iload_n hC dX4_complain_2 rfl (j := 1) rfl ?_
  refine gd_iload_n hC dX4_complain_3 rfl (j := 2) rfl ?_
  refine gd_callVR (As := [zz_v x, zz_v y]) (rest := [.ref (a 77)]) hC hF (fun hR => c_X4_isThere l hl9 N0 G Y a (S) x y ⟨by omega, by omega⟩ ⟨by omega, by omega⟩ (by omega)) (cwV 2 hts gX4_complain_X4_isThere rfl rfl rfl (by decide +kernel) ⟨by decide, by decide⟩) rfl (by decide) (ci := 4) rfl rfl rfl rfl (Nat.le_of_ble_eq_true rfl) dX4_complain_4 ⟨by decide, by decide⟩ (fun E hx => zz_xn hx) (fun q1 q1r => ?_)
  obtain ⟨q1a, q1b⟩ := id q1r
  refine gd_callVR (As := [zz_v (if (0 ≤ x ∧ x ≤ 9) ∧ 0 ≤ y ∧ y ≤ S 77 7 - 1 then 1 else 0)]) (rest := []) hC hF (fun hR => c_X4_asks l hl9 N0 G Y a (S) (if (0 ≤ x ∧ x ≤ 9) ∧ 0 ≤ y ∧ y ≤ S 77 7 - 1 then 1 else 0) (by omega)) (cwV 1 hts gX4_complain_X4_asks rfl rfl rfl (by decide +kernel) ⟨by decide, by decide⟩) rfl (by decide) (ci := 4) rfl rfl rfl rfl (Nat.le_of_ble_eq_true rfl) dX4_complain_7 ⟨by decide, by decide⟩ (fun E hx => zz_xn hx) (fun q2 q2r => ?_)
  obtain ⟨q2a, q2b⟩ := id q2r
  refine gd_if_ne hC dX4_complain_10 (tgt := 15) (by decide) ⟨by omega, by omega⟩ (fun c3 => ?_) (fun c3 => ?_)
  · skip
    refine gd_eq (S' := zz_u (S) (77) (26) (0)) (by rw [if_neg (by omega)]) ?_
    refine gd_aload_n hC dX4_complain_15 rfl (j := 0) rfl ?_
    refine gd_iload_n hC dX4_complain_16 rfl (j := 2) rfl ?_
    refine gd_callVR (As := [zz_v y]) (rest := []) hC hF (fun hR => c_X4_complaintOf l hl9 N0 G Y a (zz_u (S) (77) (26) (0)) y ⟨by omega, by omega⟩ imc) (cwV 1 hts gX4_complain_X4_complaintOf rfl rfl rfl (by decide +kernel) ⟨by decide, by decide⟩) rfl (by decide) (ci := 4) rfl rfl rfl rfl (Nat.le_of_ble_eq_true rfl) dX4_complain_17 ⟨by decide, by decide⟩ (fun E hx => zz_xn hx) (fun q4 q4r => ?_)
    obtain ⟨q4a, q4b⟩ := id q4r
    refine gd_top (y := zz_mcj (S 91) (S 92) y (S 77 17).toNat) rfl ?_
    have q4n : zz_R (zz_mcj (S 91) (S 92) y (S 77 17).toNat) := q4r
    obtain ⟨q4na, q4nb⟩ := id q4n
    have q4F : -1 ≤ zz_mcj (S 91) (S 92) y (S 77 17).toNat ∧ zz_mcj (S 91) (S 92) y (S 77 17).toNat < S 77 17 := q4
    refine gd_istore_n hC dX4_complain_20 rfl (by decide) (lv' := [(3, zz_v (zz_mcj (S 91) (S 92) y (S 77 17).toNat)), (0, .ref (a 77)), (1, zz_v x), (2, zz_v y)]) rfl ?_
    refine gd_aload_n hC dX4_complain_21 rfl (j := 1) rfl ?_
    refine gd_iload_n hC dX4_complain_22 rfl (j := 2) rfl ?_
    refine gd_iload_n hC dX4_complain_23 rfl (j := 3) rfl ?_
    refine gd_callVR (As := [zz_v x, zz_v y]) (rest := []) hC hF (fun hR => c_X4_barOf l hl9 N0 G Y a (zz_u (S) (77) (26) (0)) x y x.toNat y.toNat (by omega) (by omega) (by omega) (by omega) imd ipl itd) (cwV 2 hts gX4_complain_X4_barOf rfl rfl rfl (by decide +kernel) ⟨by decide, by decide⟩) rfl (by decide) (ci := 4) rfl rfl rfl rfl (Nat.le_of_ble_eq_true rfl) dX4_complain_24 ⟨by decide, by decide⟩ (fun E hx => zz_xn hx) (fun q5 q5r => ?_)
    obtain ⟨q5a, q5b⟩ := id q5r
    refine gd_top (y := zz_mba (S 90) (S 87) (S 88) (S 84) (S 77 0) x.toNat y.toNat) rfl ?_
    have q5n : zz_R (zz_mba (S 90) (S 87) (S 88) (S 84) (S 77 0) x.toNat y.toNat) := q5r
    obtain ⟨q5na, q5nb⟩ := id q5n
    have q5F : 0 ≤ zz_mba (S 90) (S 87) (S 88) (S 84) (S 77 0) x.toNat y.toNat ∧ zz_mba (S 90) (S 87) (S 88) (S 84) (S 77 0) x.toNat y.toNat ≤ 3 := q5
    refine gd_if_gt hC dX4_complain_27 (tgt := 44) (by decide) ⟨by omega, by omega⟩ (fun c6 => ?_) (fun c6 => ?_)
    · skip
      refine gd_aload_n hC dX4_complain_44 rfl (j := 1) rfl ?_
      refine gd_iconst hC dX4_complain_45 ?_
      refine gd_callVR (As := [zz_v 2]) (rest := []) hC hF (fun hR => c_X4_fails l hl9 N0 G Y a (zz_u (S) (77) (26) (0)) 2 ⟨by decide, by decide⟩) (cwV 1 hts gX4_complain_X4_fails rfl rfl rfl (by decide +kernel) ⟨by decide, by decide⟩) rfl (by decide) (ci := 4) rfl rfl rfl rfl (Nat.le_of_ble_eq_true rfl) dX4_complain_46 ⟨by decide, by decide⟩ (fun E hx => zz_xn hx) (fun q7 q7r => ?_)
      obtain ⟨q7a, q7b⟩ := id q7r
      exact gd_ireturn hC hr rfl hlk dX4_complain_49 (by decide) ⟨_, ⟨by decide, by decide⟩, rfl, (z1 (by omega)).2.symm, (z1 (by omega)).1.symm, trivial⟩
    · skip
      refine gd_iload_n hC dX4_complain_30 rfl (j := 0) rfl ?_
      refine gd_iconst hC dX4_complain_31 ?_
      refine gd_icmp_ne hC dX4_complain_32 (tgt := 50) (by decide) ⟨by omega, by omega⟩ ⟨by decide, by decide⟩ (fun c8 => ?_) (fun c8 => ?_)
      · skip
        refine gd_iload_n hC dX4_complain_50 rfl (j := 0) rfl ?_
        refine gd_iconst hC dX4_complain_51 ?_
        refine gd_icmp_ne hC dX4_complain_52 (tgt := 106) (by decide) ⟨by omega, by omega⟩ ⟨by decide, by decide⟩ (fun c9 => ?_) (fun c9 => ?_)
        · skip
          refine gd_aload_n hC dX4_complain_106 rfl (j := 1) rfl ?_
          refine gd_getR hC w4 hK (ci := 4) rfl (by decide) rfl 21 (by decide) (j := 94) rfl f60 rfl dX4_complain_107 ?_
          refine gd_iload_n hC dX4_complain_110 rfl (j := 0) rfl ?_
          refine gd_dup2 hC dX4_complain_111 rfl rfl ?_
          refine gd_iald hC hK (j := (zz_mcj (S 91) (S 92) y (S 77 17).toNat).toNat) rfl (by decide) (by omega) (by omega) (by decide) dX4_complain_112 (fun r10 => ?_)
          obtain ⟨r10a, r10b⟩ := id r10
          refine gd_top (y := S 94 ((zz_mcj (S 91) (S 92) y (S 77 17).toNat).toNat)) (zz_u_ne _ _ (by omega)) ?_
          rw [(zz_u_ne _ _ (by omega) : (zz_u (S) (77) (26) (0)) (94) ((zz_mcj (S 91) (S 92) y (S 77 17).toNat).toNat) = S 94 ((zz_mcj (S 91) (S 92) y (S 77 17).toNat).toNat))] at r10a r10b
          have hpe := ipe (zz_mcj (S 91) (S 92) y (S 77 17).toNat).toNat (by omega)
          refine gd_iconst hC dX4_complain_113 ?_
          refine gd_iload_n hC dX4_complain_114 rfl (j := 2) rfl ?_
          refine gd_ishl1 hC ⟨by omega, by omega⟩ dX4_complain_115 ?_
          refine gd_ior hC ⟨by omega, by omega⟩ (zz_p2 ⟨by omega, by omega⟩) dX4_complain_116 ?_
          refine gd_top (y := (((S 94 ((zz_mcj (S 91) (S 92) y (S 77 17).toNat).toNat)).toNat ||| 2 ^ x.toNat : Nat) : Int)) rfl ?_
          have h2p : (2 : Nat) ^ x.toNat < 2 ^ 10 := Nat.pow_lt_pow_right (by omega) (by omega)
          have hor : ((S 94 (zz_mcj (S 91) (S 92) y (S 77 17).toNat).toNat).toNat ||| 2 ^ x.toNat : Nat) < 2 ^ 10 := Nat.or_lt_two_pow (by omega) h2p
          refine gd_iast hC hK (j := (zz_mcj (S 91) (S 92) y (S 77 17).toNat).toNat) rfl (by decide) (by omega) (by omega) (by decide) ⟨by omega, by omega⟩ dX4_complain_117 ?_
          refine gd_iload_n hC dX4_complain_118 rfl (j := 0) rfl ?_
          exact gd_ireturn hC hr rfl hlk dX4_complain_119 (by decide) ⟨_, ⟨by omega, by omega⟩, rfl, (z2 (by omega)).2.symm, (z2 (by omega)).1.symm, trivial⟩
        · skip
          refine gd_aload_n hC dX4_complain_55 rfl (j := 1) rfl ?_
          refine gd_getI hC w4 hK (ci := 4) rfl (by decide) rfl 17 (by decide) rfl f89 rfl dX4_complain_56 (fun r11 => ?_)
          obtain ⟨r11a, r11b⟩ := id r11
          refine gd_top (y := S 77 17) (zz_u_ne _ _ (by omega)) ?_
          rw [(zz_u_ne _ _ (by omega) : (zz_u (S) (77) (26) (0)) (77) (17) = S 77 17)] at r11a r11b
          refine gd_istore_n hC dX4_complain_59 rfl (by decide) (lv' := [(3, zz_v (S 77 17)), (0, .ref (a 77)), (1, zz_v x), (2, zz_v y)]) rfl ?_
          refine gd_aload_n hC dX4_complain_60 rfl (j := 1) rfl ?_
          refine gd_getR hC w4 hK (ci := 4) rfl (by decide) rfl 18 (by decide) (j := 91) rfl f51 rfl dX4_complain_61 ?_
          refine gd_iload_n hC dX4_complain_64 rfl (j := 0) rfl ?_
          refine gd_iload_n hC dX4_complain_65 rfl (j := 3) rfl ?_
          refine gd_iast hC hK (j := (S 77 17).toNat) rfl (by decide) (by omega) (by omega) (by decide) ⟨by omega, by omega⟩ dX4_complain_66 ?_
          refine gd_aload_n hC dX4_complain_67 rfl (j := 1) rfl ?_
          refine gd_getR hC w4 hK (ci := 4) rfl (by decide) rfl 19 (by decide) (j := 92) rfl f54 rfl dX4_complain_68 ?_
          refine gd_iload_n hC dX4_complain_71 rfl (j := 0) rfl ?_
          refine gd_iconst hC dX4_complain_72 ?_
          refine gd_iast hC hK (j := (S 77 17).toNat) rfl (by decide) (by omega) (by omega) (by decide) ⟨by decide, by decide⟩ dX4_complain_73 ?_
          refine gd_aload_n hC dX4_complain_74 rfl (j := 1) rfl ?_
          refine gd_getR hC w4 hK (ci := 4) rfl (by decide) rfl 20 (by decide) (j := 93) rfl f57 rfl dX4_complain_75 ?_
          refine gd_iload_n hC dX4_complain_78 rfl (j := 0) rfl ?_
          refine gd_bipush hC dX4_complain_79 rfl ?_
          refine gd_iast hC hK (j := (S 77 17).toNat) rfl (by decide) (by omega) (by omega) (by decide) ⟨by decide, by decide⟩ dX4_complain_81 ?_
          refine gd_aload_n hC dX4_complain_82 rfl (j := 1) rfl ?_
          refine gd_getR hC w4 hK (ci := 4) rfl (by decide) rfl 22 (by decide) (j := 95) rfl f63 rfl dX4_complain_83 ?_
          refine gd_iload_n hC dX4_complain_86 rfl (j := 0) rfl ?_
          refine gd_iconst hC dX4_complain_87 ?_
          refine gd_iast hC hK (j := (S 77 17).toNat) rfl (by decide) (by omega) (by omega) (by decide) ⟨by decide, by decide⟩ dX4_complain_88 ?_
          refine gd_aload_n hC dX4_complain_89 rfl (j := 1) rfl ?_
          refine gd_getR hC w4 hK (ci := 4) rfl (by decide) rfl 25 (by decide) (j := 98) rfl f72 rfl dX4_complain_90 ?_
          refine gd_iload_n hC dX4_complain_93 rfl (j := 0) rfl ?_
          refine gd_iconst hC dX4_complain_94 ?_
          refine gd_iast hC hK (j := (S 77 17).toNat) rfl (by decide) (by omega) (by omega) (by decide) ⟨by decide, by decide⟩ dX4_complain_95 ?_
          refine gd_aload_n hC dX4_complain_96 rfl (j := 1) rfl ?_
          refine gd_dup hC dX4_complain_97 rfl ?_
          refine gd_getI hC w4 hK (ci := 4) rfl (by decide) rfl 17 (by decide) rfl f89 rfl dX4_complain_98 (fun r12 => ?_)
          obtain ⟨r12a, r12b⟩ := id r12
          refine gd_top (y := S 77 17) ((zz_u_ne _ _ (by omega)).trans ((zz_u_ne _ _ (by omega)).trans ((zz_u_ne _ _ (by omega)).trans ((zz_u_ne _ _ (by omega)).trans ((zz_u_ne _ _ (by omega)).trans (zz_u_ne _ _ (by omega))))))) ?_
          rw [((zz_u_ne _ _ (by omega)).trans ((zz_u_ne _ _ (by omega)).trans ((zz_u_ne _ _ (by omega)).trans ((zz_u_ne _ _ (by omega)).trans ((zz_u_ne _ _ (by omega)).trans (zz_u_ne _ _ (by omega)))))) : (zz_u (zz_u (zz_u (zz_u (zz_u (zz_u (S) (77) (26) (0)) (91) ((S 77 17).toNat) (y)) (92) ((S 77 17).toNat) (0)) (93) ((S 77 17).toNat) (60)) (95) ((S 77 17).toNat) ((-1))) (98) ((S 77 17).toNat) ((-1))) (77) (17) = S 77 17)] at r12a r12b
          refine gd_iconst hC dX4_complain_101 ?_
          refine gd_iadd hC dX4_complain_102 ?_
          refine gd_put hC w4 tyX4 tyX4_ok nmX4 hK (ci := 4) rfl (by decide) rfl 17 (by decide) rfl f89 rfl rfl (ty := .int) (by decide +kernel) rfl rfl ⟨by omega, by omega⟩ dX4_complain_103 ?_
          refine gd_aload_n hC dX4_complain_106 rfl (j := 1) rfl ?_
          refine gd_getR hC w4 hK (ci := 4) rfl (by decide) rfl 21 (by decide) (j := 94) rfl f60 rfl dX4_complain_107 ?_
          refine gd_iload_n hC dX4_complain_110 rfl (j := 0) rfl ?_
          refine gd_dup2 hC dX4_complain_111 rfl rfl ?_
          refine gd_iald hC hK (j := (S 77 17).toNat) rfl (by decide) (by omega) (by omega) (by decide) dX4_complain_112 (fun r13 => ?_)
          obtain ⟨r13a, r13b⟩ := id r13
          refine gd_top (y := S 94 ((S 77 17).toNat)) ((zz_u_ne _ _ (by omega)).trans ((zz_u_ne _ _ (by omega)).trans ((zz_u_ne _ _ (by omega)).trans ((zz_u_ne _ _ (by omega)).trans ((zz_u_ne _ _ (by omega)).trans ((zz_u_ne _ _ (by omega)).trans (zz_u_ne _ _ (by omega)))))))) ?_
          rw [((zz_u_ne _ _ (by omega)).trans ((zz_u_ne _ _ (by omega)).trans ((zz_u_ne _ _ (by omega)).trans ((zz_u_ne _ _ (by omega)).trans ((zz_u_ne _ _ (by omega)).trans ((zz_u_ne _ _ (by omega)).trans (zz_u_ne _ _ (by omega))))))) : (zz_u (zz_u (zz_u (zz_u (zz_u (zz_u (zz_u (S) (77) (26) (0)) (91) ((S 77 17).toNat) (y)) (92) ((S 77 17).toNat) (0)) (93) ((S 77 17).toNat) (60)) (95) ((S 77 17).toNat) ((-1))) (98) ((S 77 17).toNat) ((-1))) (77) (17) ((S 77 17) + 1)) (94) ((S 77 17).toNat) = S 94 ((S 77 17).toNat))] at r13a r13b
          have hpe := ipe (S 77 17).toNat (by omega)
          refine gd_iconst hC dX4_complain_113 ?_
          refine gd_iload_n hC dX4_complain_114 rfl (j := 2) rfl ?_
          refine gd_ishl1 hC ⟨by omega, by omega⟩ dX4_complain_115 ?_
          refine gd_ior hC ⟨by omega, by omega⟩ (zz_p2 ⟨by omega, by omega⟩) dX4_complain_116 ?_
          refine gd_top (y := (((S 94 ((S 77 17).toNat)).toNat ||| 2 ^ x.toNat : Nat) : Int)) rfl ?_
          have h2p : (2 : Nat) ^ x.toNat < 2 ^ 10 := Nat.pow_lt_pow_right (by omega) (by omega)
          have hor : ((S 94 (S 77 17).toNat).toNat ||| 2 ^ x.toNat : Nat) < 2 ^ 10 := Nat.or_lt_two_pow (by omega) h2p
          refine gd_iast hC hK (j := (S 77 17).toNat) rfl (by decide) (by omega) (by omega) (by decide) ⟨by omega, by omega⟩ dX4_complain_117 ?_
          refine gd_iload_n hC dX4_complain_118 rfl (j := 0) rfl ?_
          exact gd_ireturn hC hr rfl hlk dX4_complain_119 (by decide) ⟨_, ⟨by omega, by omega⟩, rfl, (z3 (by omega)).2.symm, (z3 (by omega)).1.symm, trivial⟩
      · skip
        refine gd_aload_n hC dX4_complain_35 rfl (j := 1) rfl ?_
        refine gd_getI hC w4 hK (ci := 4) rfl (by decide) rfl 17 (by decide) rfl f89 rfl dX4_complain_36 (fun r14 => ?_)
        obtain ⟨r14a, r14b⟩ := id r14
        refine gd_top (y := S 77 17) (zz_u_ne _ _ (by omega)) ?_
        rw [(zz_u_ne _ _ (by omega) : (zz_u (S) (77) (26) (0)) (77) (17) = S 77 17)] at r14a r14b
        refine gd_bipush hC dX4_complain_39 rfl ?_
        refine gd_icmp_ne hC dX4_complain_41 (tgt := 50) (by decide) ⟨by omega, by omega⟩ ⟨by decide, by decide⟩ (fun c15 => ?_) (fun c15 => ?_)
        · skip
          refine gd_iload_n hC dX4_complain_50 rfl (j := 0) rfl ?_
          refine gd_iconst hC dX4_complain_51 ?_
          refine gd_icmp_ne hC dX4_complain_52 (tgt := 106) (by decide) ⟨by omega, by omega⟩ ⟨by decide, by decide⟩ (fun c16 => ?_) (fun c16 => ?_)
          · skip
            refine gd_aload_n hC dX4_complain_106 rfl (j := 1) rfl ?_
            refine gd_getR hC w4 hK (ci := 4) rfl (by decide) rfl 21 (by decide) (j := 94) rfl f60 rfl dX4_complain_107 ?_
            refine gd_iload_n hC dX4_complain_110 rfl (j := 0) rfl ?_
            refine gd_dup2 hC dX4_complain_111 rfl rfl ?_
            refine gd_iald hC hK (j := (zz_mcj (S 91) (S 92) y (S 77 17).toNat).toNat) rfl (by decide) (by omega) (by omega) (by decide) dX4_complain_112 (fun r17 => ?_)
            obtain ⟨r17a, r17b⟩ := id r17
            refine gd_top (y := S 94 ((zz_mcj (S 91) (S 92) y (S 77 17).toNat).toNat)) (zz_u_ne _ _ (by omega)) ?_
            rw [(zz_u_ne _ _ (by omega) : (zz_u (S) (77) (26) (0)) (94) ((zz_mcj (S 91) (S 92) y (S 77 17).toNat).toNat) = S 94 ((zz_mcj (S 91) (S 92) y (S 77 17).toNat).toNat))] at r17a r17b
            have hpe := ipe (zz_mcj (S 91) (S 92) y (S 77 17).toNat).toNat (by omega)
            refine gd_iconst hC dX4_complain_113 ?_
            refine gd_iload_n hC dX4_complain_114 rfl (j := 2) rfl ?_
            refine gd_ishl1 hC ⟨by omega, by omega⟩ dX4_complain_115 ?_
            refine gd_ior hC ⟨by omega, by omega⟩ (zz_p2 ⟨by omega, by omega⟩) dX4_complain_116 ?_
            refine gd_top (y := (((S 94 ((zz_mcj (S 91) (S 92) y (S 77 17).toNat).toNat)).toNat ||| 2 ^ x.toNat : Nat) : Int)) rfl ?_
            have h2p : (2 : Nat) ^ x.toNat < 2 ^ 10 := Nat.pow_lt_pow_right (by omega) (by omega)
            have hor : ((S 94 (zz_mcj (S 91) (S 92) y (S 77 17).toNat).toNat).toNat ||| 2 ^ x.toNat : Nat) < 2 ^ 10 := Nat.or_lt_two_pow (by omega) h2p
            refine gd_iast hC hK (j := (zz_mcj (S 91) (S 92) y (S 77 17).toNat).toNat) rfl (by decide) (by omega) (by omega) (by decide) ⟨by omega, by omega⟩ dX4_complain_117 ?_
            refine gd_iload_n hC dX4_complain_118 rfl (j := 0) rfl ?_
            exact gd_ireturn hC hr rfl hlk dX4_complain_119 (by decide) ⟨_, ⟨by omega, by omega⟩, rfl, (z2 (by omega)).2.symm, (z2 (by omega)).1.symm, trivial⟩
          · skip
            refine gd_aload_n hC dX4_complain_55 rfl (j := 1) rfl ?_
            refine gd_getI hC w4 hK (ci := 4) rfl (by decide) rfl 17 (by decide) rfl f89 rfl dX4_complain_56 (fun r18 => ?_)
            obtain ⟨r18a, r18b⟩ := id r18
            refine gd_top (y := S 77 17) (zz_u_ne _ _ (by omega)) ?_
            rw [(zz_u_ne _ _ (by omega) : (zz_u (S) (77) (26) (0)) (77) (17) = S 77 17)] at r18a r18b
            refine gd_istore_n hC dX4_complain_59 rfl (by decide) (lv' := [(3, zz_v (S 77 17)), (0, .ref (a 77)), (1, zz_v x), (2, zz_v y)]) rfl ?_
            refine gd_aload_n hC dX4_complain_60 rfl (j := 1) rfl ?_
            refine gd_getR hC w4 hK (ci := 4) rfl (by decide) rfl 18 (by decide) (j := 91) rfl f51 rfl dX4_complain_61 ?_
            refine gd_iload_n hC dX4_complain_64 rfl (j := 0) rfl ?_
            refine gd_iload_n hC dX4_complain_65 rfl (j := 3) rfl ?_
            refine gd_iast hC hK (j := (S 77 17).toNat) rfl (by decide) (by omega) (by omega) (by decide) ⟨by omega, by omega⟩ dX4_complain_66 ?_
            refine gd_aload_n hC dX4_complain_67 rfl (j := 1) rfl ?_
            refine gd_getR hC w4 hK (ci := 4) rfl (by decide) rfl 19 (by decide) (j := 92) rfl f54 rfl dX4_complain_68 ?_
            refine gd_iload_n hC dX4_complain_71 rfl (j := 0) rfl ?_
            refine gd_iconst hC dX4_complain_72 ?_
            refine gd_iast hC hK (j := (S 77 17).toNat) rfl (by decide) (by omega) (by omega) (by decide) ⟨by decide, by decide⟩ dX4_complain_73 ?_
            refine gd_aload_n hC dX4_complain_74 rfl (j := 1) rfl ?_
            refine gd_getR hC w4 hK (ci := 4) rfl (by decide) rfl 20 (by decide) (j := 93) rfl f57 rfl dX4_complain_75 ?_
            refine gd_iload_n hC dX4_complain_78 rfl (j := 0) rfl ?_
            refine gd_bipush hC dX4_complain_79 rfl ?_
            refine gd_iast hC hK (j := (S 77 17).toNat) rfl (by decide) (by omega) (by omega) (by decide) ⟨by decide, by decide⟩ dX4_complain_81 ?_
            refine gd_aload_n hC dX4_complain_82 rfl (j := 1) rfl ?_
            refine gd_getR hC w4 hK (ci := 4) rfl (by decide) rfl 22 (by decide) (j := 95) rfl f63 rfl dX4_complain_83 ?_
            refine gd_iload_n hC dX4_complain_86 rfl (j := 0) rfl ?_
            refine gd_iconst hC dX4_complain_87 ?_
            refine gd_iast hC hK (j := (S 77 17).toNat) rfl (by decide) (by omega) (by omega) (by decide) ⟨by decide, by decide⟩ dX4_complain_88 ?_
            refine gd_aload_n hC dX4_complain_89 rfl (j := 1) rfl ?_
            refine gd_getR hC w4 hK (ci := 4) rfl (by decide) rfl 25 (by decide) (j := 98) rfl f72 rfl dX4_complain_90 ?_
            refine gd_iload_n hC dX4_complain_93 rfl (j := 0) rfl ?_
            refine gd_iconst hC dX4_complain_94 ?_
            refine gd_iast hC hK (j := (S 77 17).toNat) rfl (by decide) (by omega) (by omega) (by decide) ⟨by decide, by decide⟩ dX4_complain_95 ?_
            refine gd_aload_n hC dX4_complain_96 rfl (j := 1) rfl ?_
            refine gd_dup hC dX4_complain_97 rfl ?_
            refine gd_getI hC w4 hK (ci := 4) rfl (by decide) rfl 17 (by decide) rfl f89 rfl dX4_complain_98 (fun r19 => ?_)
            obtain ⟨r19a, r19b⟩ := id r19
            refine gd_top (y := S 77 17) ((zz_u_ne _ _ (by omega)).trans ((zz_u_ne _ _ (by omega)).trans ((zz_u_ne _ _ (by omega)).trans ((zz_u_ne _ _ (by omega)).trans ((zz_u_ne _ _ (by omega)).trans (zz_u_ne _ _ (by omega))))))) ?_
            rw [((zz_u_ne _ _ (by omega)).trans ((zz_u_ne _ _ (by omega)).trans ((zz_u_ne _ _ (by omega)).trans ((zz_u_ne _ _ (by omega)).trans ((zz_u_ne _ _ (by omega)).trans (zz_u_ne _ _ (by omega)))))) : (zz_u (zz_u (zz_u (zz_u (zz_u (zz_u (S) (77) (26) (0)) (91) ((S 77 17).toNat) (y)) (92) ((S 77 17).toNat) (0)) (93) ((S 77 17).toNat) (60)) (95) ((S 77 17).toNat) ((-1))) (98) ((S 77 17).toNat) ((-1))) (77) (17) = S 77 17)] at r19a r19b
            refine gd_iconst hC dX4_complain_101 ?_
            refine gd_iadd hC dX4_complain_102 ?_
            refine gd_put hC w4 tyX4 tyX4_ok nmX4 hK (ci := 4) rfl (by decide) rfl 17 (by decide) rfl f89 rfl rfl (ty := .int) (by decide +kernel) rfl rfl ⟨by omega, by omega⟩ dX4_complain_103 ?_
            refine gd_aload_n hC dX4_complain_106 rfl (j := 1) rfl ?_
            refine gd_getR hC w4 hK (ci := 4) rfl (by decide) rfl 21 (by decide) (j := 94) rfl f60 rfl dX4_complain_107 ?_
            refine gd_iload_n hC dX4_complain_110 rfl (j := 0) rfl ?_
            refine gd_dup2 hC dX4_complain_111 rfl rfl ?_
            refine gd_iald hC hK (j := (S 77 17).toNat) rfl (by decide) (by omega) (by omega) (by decide) dX4_complain_112 (fun r20 => ?_)
            obtain ⟨r20a, r20b⟩ := id r20
            refine gd_top (y := S 94 ((S 77 17).toNat)) ((zz_u_ne _ _ (by omega)).trans ((zz_u_ne _ _ (by omega)).trans ((zz_u_ne _ _ (by omega)).trans ((zz_u_ne _ _ (by omega)).trans ((zz_u_ne _ _ (by omega)).trans ((zz_u_ne _ _ (by omega)).trans (zz_u_ne _ _ (by omega)))))))) ?_
            rw [((zz_u_ne _ _ (by omega)).trans ((zz_u_ne _ _ (by omega)).trans ((zz_u_ne _ _ (by omega)).trans ((zz_u_ne _ _ (by omega)).trans ((zz_u_ne _ _ (by omega)).trans ((zz_u_ne _ _ (by omega)).trans (zz_u_ne _ _ (by omega))))))) : (zz_u (zz_u (zz_u (zz_u (zz_u (zz_u (zz_u (S) (77) (26) (0)) (91) ((S 77 17).toNat) (y)) (92) ((S 77 17).toNat) (0)) (93) ((S 77 17).toNat) (60)) (95) ((S 77 17).toNat) ((-1))) (98) ((S 77 17).toNat) ((-1))) (77) (17) ((S 77 17) + 1)) (94) ((S 77 17).toNat) = S 94 ((S 77 17).toNat))] at r20a r20b
            have hpe := ipe (S 77 17).toNat (by omega)
            refine gd_iconst hC dX4_complain_113 ?_
            refine gd_iload_n hC dX4_complain_114 rfl (j := 2) rfl ?_
            refine gd_ishl1 hC ⟨by omega, by omega⟩ dX4_complain_115 ?_
            refine gd_ior hC ⟨by omega, by omega⟩ (zz_p2 ⟨by omega, by omega⟩) dX4_complain_116 ?_
            refine gd_top (y := (((S 94 ((S 77 17).toNat)).toNat ||| 2 ^ x.toNat : Nat) : Int)) rfl ?_
            have h2p : (2 : Nat) ^ x.toNat < 2 ^ 10 := Nat.pow_lt_pow_right (by omega) (by omega)
            have hor : ((S 94 (S 77 17).toNat).toNat ||| 2 ^ x.toNat : Nat) < 2 ^ 10 := Nat.or_lt_two_pow (by omega) h2p
            refine gd_iast hC hK (j := (S 77 17).toNat) rfl (by decide) (by omega) (by omega) (by decide) ⟨by omega, by omega⟩ dX4_complain_117 ?_
            refine gd_iload_n hC dX4_complain_118 rfl (j := 0) rfl ?_
            exact gd_ireturn hC hr rfl hlk dX4_complain_119 (by decide) ⟨_, ⟨by omega, by omega⟩, rfl, (z3 (by omega)).2.symm, (z3 (by omega)).1.symm, trivial⟩
        · skip
          refine gd_aload_n hC dX4_complain_44 rfl (j := 1) rfl ?_
          refine gd_iconst hC dX4_complain_45 ?_
          refine gd_callVR (As := [zz_v 2]) (rest := []) hC hF (fun hR => c_X4_fails l hl9 N0 G Y a (zz_u (S) (77) (26) (0)) 2 ⟨by decide, by decide⟩) (cwV 1 hts gX4_complain_X4_fails rfl rfl rfl (by decide +kernel) ⟨by decide, by decide⟩) rfl (by decide) (ci := 4) rfl rfl rfl rfl (Nat.le_of_ble_eq_true rfl) dX4_complain_46 ⟨by decide, by decide⟩ (fun E hx => zz_xn hx) (fun q21 q21r => ?_)
          obtain ⟨q21a, q21b⟩ := id q21r
          exact gd_ireturn hC hr rfl hlk dX4_complain_49 (by decide) ⟨_, ⟨by decide, by decide⟩, rfl, (z1 (by omega)).2.symm, (z1 (by omega)).1.symm, trivial⟩
  · skip
    refine gd_eq (S' := zz_u (S) (77) (26) (1)) (by rw [if_pos (by omega)]) ?_
    refine gd_iconst hC dX4_complain_13 ?_
    exact gd_ireturn hC hr rfl hlk dX4_complain_14 (by decide) ⟨_, ⟨by decide, by decide⟩, rfl, (z0 (by omega)).2.symm, (z0 (by omega)).1.symm, trivial⟩

abbrev rm_X4_ask : Room := { frames := 2, cells := 0, slots := 0, locals := 43 }
set_option maxHeartbeats 4000000 in
set_option maxRecDepth 100000 in
theorem c_X4_ask (l : Launch) (hl9 : l.stackTraces = false) (N0 : Nat) (G : zz_G) (Y : zz_Y) (a : Nat → Nat) (S : zz_S) (x : Int) (hx : zz_R x) (hI : zz_IM S) (e1 : Int) (S1 : zz_S) (z0 : ¬ (0 ≤ x ∧ x ≤ S 77 17 - 1) → e1 = 0 ∧ S1 = zz_u (S) 77 26 1) (z1 : (0 ≤ x ∧ x ≤ S 77 17 - 1) ∧ ¬ (S 92 x.toNat = 0 ∧ S 95 x.toNat = -1) → e1 = 0 ∧ S1 = zz_u ((zz_u S 77 26 0)) 77 26 2) (z2 : (0 ≤ x ∧ x ≤ S 77 17 - 1) ∧ (S 92 x.toNat = 0 ∧ S 95 x.toNat = -1) → e1 = S 82 (S 91 x.toNat).toNat ∧ S1 = zz_u ((zz_u S 77 26 0)) 95 x.toNat (S 77 0)) : CtR l yX4_ask wsX4_ask rm_X4_ask 0 [.ref (a 77), zz_v x] N0 G Y a S (e1) (S1) (True) (False) (False) (False) := by
  refine Ct_.of (cc := cX4_ask) (maxL := 2) (ret := (some .int)) (by decide) rfl (Nat.le_of_ble_eq_true rfl) ?_
  intro p e s m args below meth c hC hts hr hlk hex hF
  have hK := hF.2.1
  have w4 : ∀ w ∈ u_ws RX4 TX4 27, w.before args s = true := fun w h => hts w (List.mem_cons_of_mem _ (List.mem_append_right _ h))
  have f23 : (Cond.fieldLink RX4 23 "GrievancehallModel" "whoseAct" "[I").before args s = true := hts _ (by decide +kernel)
  have f51 : (Cond.fieldLink RX4 51 "GrievancehallModel" "about" "[I").before args s = true := hts _ (by decide +kernel)
  have f54 : (Cond.fieldLink RX4 54 "GrievancehallModel" "state" "[I").before args s = true := hts _ (by decide +kernel)
  have f63 : (Cond.fieldLink RX4 63 "GrievancehallModel" "asked" "[I").before args s = true := hts _ (by decide +kernel)
  have f107 : (Cond.fieldLink RX4 107 "GrievancehallModel" "day" "I").before args s = true := hts _ (by decide +kernel)
  refine gd_lveq (lv' := [(0, .ref (a 77)), (1, zz_v x)]) rfl ?_
  obtain ⟨imd, iml, imo, ima, imc, iaf, ilm, iwh, ikd, itd, ims, ihm, ict, iwv, ipl, iab, ist, ilf, ipe, iak, ian, ihe, ifn, iav, iod⟩ := id hI
  obtain ⟨hx1, hx2⟩ := id hx
  refine gd_aload_n hC dX4_ask_0 rfl (j := 0) rfl ?_
  refine gd_aload_n hC dX4_ask_1 rfl (j := 0) rfl ?_
  refine gd_iload_n hC dX4_ask_2 rfl (j := 1) rfl ?_
  refine gd_callVR (As := [zz_v x]) (rest := [.ref (a 77)]) hC hF (fun hR => c_X4_isComplaint l hl9 N0 G Y a (S) x ⟨by omega, by omega⟩ (by omega)) (cwV 1 hts gX4_ask_X4_isComplaint rfl rfl rfl (by decide +kernel) ⟨by decide, by decide⟩) rfl (by decide) (ci := 4) rfl rfl rfl rfl (Nat.le_of_ble_eq_true rfl) dX4_ask_3 ⟨by decide, by decide⟩ (fun E hx => zz_xn hx) (fun q1 q1r => ?_)
  obtain ⟨q1a, q1b⟩ := id q1r
  refine gd_callVR (As := [zz_v (if 0 ≤ x ∧ x ≤ S 77 17 - 1 then 1 else 0)]) (rest := []) hC hF (fun hR => c_X4_asks l hl9 N0 G Y a (S) (if 0 ≤ x ∧ x ≤ S 77 17 - 1 then 1 else 0) (by omega)) (cwV 1 hts gX4_ask_X4_asks rfl rfl rfl (by decide +kernel) ⟨by decide, by decide⟩) rfl (by decide) (ci := 4) rfl rfl rfl rfl (Nat.le_of_ble_eq_true rfl) dX4_ask_6 ⟨by decide, by decide⟩ (fun E hx => zz_xn hx) (fun q2 q2r => ?_)
  obtain ⟨q2a, q2b⟩ := id q2r
  refine gd_if_ne hC dX4_ask_9 (tgt := 14) (by decide) ⟨by omega, by omega⟩ (fun c3 => ?_) (fun c3 => ?_)
  · skip
    refine gd_eq (S' := zz_u (S) (77) (26) (0)) (by rw [if_neg (by omega)]) ?_
    have hiab_ := iab x.toNat (by omega)
    refine gd_aload_n hC dX4_ask_14 rfl (j := 0) rfl ?_
    refine gd_getR hC w4 hK (ci := 4) rfl (by decide) rfl 19 (by decide) (j := 92) rfl f54 rfl dX4_ask_15 ?_
    refine gd_iload_n hC dX4_ask_18 rfl (j := 1) rfl ?_
    refine gd_iald hC hK (j := x.toNat) rfl (by decide) (by omega) (by omega) (by decide) dX4_ask_19 (fun r4 => ?_)
    obtain ⟨r4a, r4b⟩ := id r4
    refine gd_top (y := S 92 x.toNat) (zz_u_ne _ _ (by omega)) ?_
    rw [(zz_u_ne _ _ (by omega) : (zz_u (S) (77) (26) (0)) (92) (x.toNat) = S 92 x.toNat)] at r4a r4b
    refine gd_if_ne hC dX4_ask_20 (tgt := 33) (by decide) ⟨by omega, by omega⟩ (fun c5 => ?_) (fun c5 => ?_)
    · skip
      refine gd_aload_n hC dX4_ask_33 rfl (j := 0) rfl ?_
      refine gd_iconst hC dX4_ask_34 ?_
      refine gd_callVR (As := [zz_v 2]) (rest := []) hC hF (fun hR => c_X4_fails l hl9 N0 G Y a (zz_u (S) (77) (26) (0)) 2 ⟨by decide, by decide⟩) (cwV 1 hts gX4_ask_X4_fails rfl rfl rfl (by decide +kernel) ⟨by decide, by decide⟩) rfl (by decide) (ci := 4) rfl rfl rfl rfl (Nat.le_of_ble_eq_true rfl) dX4_ask_35 ⟨by decide, by decide⟩ (fun E hx => zz_xn hx) (fun q6 q6r => ?_)
      obtain ⟨q6a, q6b⟩ := id q6r
      exact gd_ireturn hC hr rfl hlk dX4_ask_38 (by decide) ⟨_, ⟨by decide, by decide⟩, rfl, (z1 (by omega)).2.symm, (z1 (by omega)).1.symm, trivial⟩
    · skip
      refine gd_aload_n hC dX4_ask_23 rfl (j := 0) rfl ?_
      refine gd_getR hC w4 hK (ci := 4) rfl (by decide) rfl 22 (by decide) (j := 95) rfl f63 rfl dX4_ask_24 ?_
      refine gd_iload_n hC dX4_ask_27 rfl (j := 1) rfl ?_
      refine gd_iald hC hK (j := x.toNat) rfl (by decide) (by omega) (by omega) (by decide) dX4_ask_28 (fun r7 => ?_)
      obtain ⟨r7a, r7b⟩ := id r7
      refine gd_top (y := S 95 x.toNat) (zz_u_ne _ _ (by omega)) ?_
      rw [(zz_u_ne _ _ (by omega) : (zz_u (S) (77) (26) (0)) (95) (x.toNat) = S 95 x.toNat)] at r7a r7b
      refine gd_iconst hC dX4_ask_29 ?_
      refine gd_icmp_eq hC dX4_ask_30 (tgt := 39) (by decide) ⟨by omega, by omega⟩ ⟨by decide, by decide⟩ (fun c8 => ?_) (fun c8 => ?_)
      · skip
        refine gd_aload_n hC dX4_ask_39 rfl (j := 0) rfl ?_
        refine gd_getR hC w4 hK (ci := 4) rfl (by decide) rfl 22 (by decide) (j := 95) rfl f63 rfl dX4_ask_40 ?_
        refine gd_iload_n hC dX4_ask_43 rfl (j := 1) rfl ?_
        refine gd_aload_n hC dX4_ask_44 rfl (j := 0) rfl ?_
        refine gd_getI hC w4 hK (ci := 4) rfl (by decide) rfl 0 (by decide) rfl f107 rfl dX4_ask_45 (fun r9 => ?_)
        obtain ⟨r9a, r9b⟩ := id r9
        refine gd_top (y := S 77 0) (zz_u_ne _ _ (by omega)) ?_
        rw [(zz_u_ne _ _ (by omega) : (zz_u (S) (77) (26) (0)) (77) (0) = S 77 0)] at r9a r9b
        refine gd_iast hC hK (j := x.toNat) rfl (by decide) (by omega) (by omega) (by decide) ⟨by omega, by omega⟩ dX4_ask_48 ?_
        refine gd_aload_n hC dX4_ask_49 rfl (j := 0) rfl ?_
        refine gd_getR hC w4 hK (ci := 4) rfl (by decide) rfl 8 (by decide) (j := 82) rfl f23 rfl dX4_ask_50 ?_
        refine gd_aload_n hC dX4_ask_53 rfl (j := 0) rfl ?_
        refine gd_getR hC w4 hK (ci := 4) rfl (by decide) rfl 18 (by decide) (j := 91) rfl f51 rfl dX4_ask_54 ?_
        refine gd_iload_n hC dX4_ask_57 rfl (j := 1) rfl ?_
        refine gd_iald hC hK (j := x.toNat) rfl (by decide) (by omega) (by omega) (by decide) dX4_ask_58 (fun r10 => ?_)
        obtain ⟨r10a, r10b⟩ := id r10
        refine gd_top (y := S 91 x.toNat) ((zz_u_ne _ _ (by omega)).trans (zz_u_ne _ _ (by omega))) ?_
        rw [((zz_u_ne _ _ (by omega)).trans (zz_u_ne _ _ (by omega)) : (zz_u (zz_u (S) (77) (26) (0)) (95) (x.toNat) (S 77 0)) (91) (x.toNat) = S 91 x.toNat)] at r10a r10b
        refine gd_iald hC hK (j := (S 91 x.toNat).toNat) rfl (by decide) (by omega) (by omega) (by decide) dX4_ask_59 (fun r11 => ?_)
        obtain ⟨r11a, r11b⟩ := id r11
        refine gd_top (y := S 82 ((S 91 x.toNat).toNat)) ((zz_u_ne _ _ (by omega)).trans (zz_u_ne _ _ (by omega))) ?_
        rw [((zz_u_ne _ _ (by omega)).trans (zz_u_ne _ _ (by omega)) : (zz_u (zz_u (S) (77) (26) (0)) (95) (x.toNat) (S 77 0)) (82) ((S 91 x.toNat).toNat) = S 82 ((S 91 x.toNat).toNat))] at r11a r11b
        exact gd_ireturn hC hr rfl hlk dX4_ask_60 (by decide) ⟨_, ⟨by omega, by omega⟩, rfl, (z2 (by omega)).2.symm, (z2 (by omega)).1.symm, trivial⟩
      · skip
        refine gd_aload_n hC dX4_ask_33 rfl (j := 0) rfl ?_
        refine gd_iconst hC dX4_ask_34 ?_
        refine gd_callVR (As := [zz_v 2]) (rest := []) hC hF (fun hR => c_X4_fails l hl9 N0 G Y a (zz_u (S) (77) (26) (0)) 2 ⟨by decide, by decide⟩) (cwV 1 hts gX4_ask_X4_fails rfl rfl rfl (by decide +kernel) ⟨by decide, by decide⟩) rfl (by decide) (ci := 4) rfl rfl rfl rfl (Nat.le_of_ble_eq_true rfl) dX4_ask_35 ⟨by decide, by decide⟩ (fun E hx => zz_xn hx) (fun q12 q12r => ?_)
        obtain ⟨q12a, q12b⟩ := id q12r
        exact gd_ireturn hC hr rfl hlk dX4_ask_38 (by decide) ⟨_, ⟨by decide, by decide⟩, rfl, (z1 (by omega)).2.symm, (z1 (by omega)).1.symm, trivial⟩
  · skip
    refine gd_eq (S' := zz_u (S) (77) (26) (1)) (by rw [if_pos (by omega)]) ?_
    refine gd_iconst hC dX4_ask_12 ?_
    exact gd_ireturn hC hr rfl hlk dX4_ask_13 (by decide) ⟨_, ⟨by decide, by decide⟩, rfl, (z0 (by omega)).2.symm, (z0 (by omega)).1.symm, trivial⟩

abbrev rm_X4_answer : Room := { frames := 2, cells := 0, slots := 0, locals := 43 }
set_option maxHeartbeats 4000000 in
set_option maxRecDepth 100000 in
theorem c_X4_answer (l : Launch) (hl9 : l.stackTraces = false) (N0 : Nat) (G : zz_G) (Y : zz_Y) (a : Nat → Nat) (S : zz_S) (x : Int) (hx : zz_R x) (hI : zz_IM S) (e1 : Int) (S1 : zz_S) (z0 : ¬ (0 ≤ x ∧ x ≤ S 77 17 - 1) → e1 = 0 ∧ S1 = zz_u (S) 77 26 1) (z1 : (0 ≤ x ∧ x ≤ S 77 17 - 1) ∧ zz_mow (S 95) (S 96) x.toNat = 0 → e1 = 0 ∧ S1 = zz_u ((zz_u S 77 26 0)) 77 26 2) (z2 : (0 ≤ x ∧ x ≤ S 77 17 - 1) ∧ ¬ zz_mow (S 95) (S 96) x.toNat = 0 → e1 = S 77 0 - S 95 x.toNat ∧ S1 = zz_u ((zz_u S 77 26 0)) 96 x.toNat 1) : CtR l yX4_answer wsX4_answer rm_X4_answer 0 [.ref (a 77), zz_v x] N0 G Y a S (e1) (S1) (True) (False) (False) (False) := by
  refine Ct_.of (cc := cX4_answer) (maxL := 2) (ret := (some .int)) (by decide) rfl (Nat.le_of_ble_eq_true rfl) ?_
  intro p e s m args below meth c hC hts hr hlk hex hF
  have hK := hF.2.1
  have w4 : ∀ w ∈ u_ws RX4 TX4 27, w.before args s = true := fun w h => hts w (List.mem_cons_of_mem _ (List.mem_append_right _ h))
  have f63 : (Cond.fieldLink RX4 63 "GrievancehallModel" "asked" "[I").before args s = true := hts _ (by decide +kernel)
  have f66 : (Cond.fieldLink RX4 66 "GrievancehallModel" "isAnswered" "[Z").before args s = true := hts _ (by decide +kernel)
  have f107 : (Cond.fieldLink RX4 107 "GrievancehallModel" "day" "I").before args s = true := hts _ (by decide +kernel)
  refine gd_lveq (lv' := [(0, .ref (a 77)), (1, zz_v x)]) rfl ?_
  obtain ⟨imd, iml, imo, ima, imc, iaf, ilm, iwh, ikd, itd, ims, ihm, ict, iwv, ipl, iab, ist, ilf, ipe, iak, ian, ihe, ifn, iav, iod⟩ := id hI
  obtain ⟨hx1, hx2⟩ := id hx
  refine gd_aload_n hC dX4_answer_0 rfl (j := 0) rfl ?_
  refine gd_aload_n hC dX4_answer_1 rfl (j := 0) rfl ?_
  refine gd_iload_n hC dX4_answer_2 rfl (j := 1) rfl ?_
  refine gd_callVR (As := [zz_v x]) (rest := [.ref (a 77)]) hC hF (fun hR => c_X4_isComplaint l hl9 N0 G Y a (S) x ⟨by omega, by omega⟩ (by omega)) (cwV 1 hts gX4_answer_X4_isComplaint rfl rfl rfl (by decide +kernel) ⟨by decide, by decide⟩) rfl (by decide) (ci := 4) rfl rfl rfl rfl (Nat.le_of_ble_eq_true rfl) dX4_answer_3 ⟨by decide, by decide⟩ (fun E hx => zz_xn hx) (fun q1 q1r => ?_)
  obtain ⟨q1a, q1b⟩ := id q1r
  refine gd_callVR (As := [zz_v (if 0 ≤ x ∧ x ≤ S 77 17 - 1 then 1 else 0)]) (rest := []) hC hF (fun hR => c_X4_asks l hl9 N0 G Y a (S) (if 0 ≤ x ∧ x ≤ S 77 17 - 1 then 1 else 0) (by omega)) (cwV 1 hts gX4_answer_X4_asks rfl rfl rfl (by decide +kernel) ⟨by decide, by decide⟩) rfl (by decide) (ci := 4) rfl rfl rfl rfl (Nat.le_of_ble_eq_true rfl) dX4_answer_6 ⟨by decide, by decide⟩ (fun E hx => zz_xn hx) (fun q2 q2r => ?_)
  obtain ⟨q2a, q2b⟩ := id q2r
  refine gd_if_ne hC dX4_answer_9 (tgt := 14) (by decide) ⟨by omega, by omega⟩ (fun c3 => ?_) (fun c3 => ?_)
  · skip
    refine gd_eq (S' := zz_u (S) (77) (26) (0)) (by rw [if_neg (by omega)]) ?_
    have hiak_ := iak x.toNat (by omega)
    refine gd_aload_n hC dX4_answer_14 rfl (j := 0) rfl ?_
    refine gd_iload_n hC dX4_answer_15 rfl (j := 1) rfl ?_
    refine gd_callVR (As := [zz_v x]) (rest := []) hC hF (fun hR => c_X4_isOwed l hl9 N0 G Y a (zz_u (S) (77) (26) (0)) x x.toNat (by omega) (by omega)) (cwV 1 hts gX4_answer_X4_isOwed rfl rfl rfl (by decide +kernel) ⟨by decide, by decide⟩) rfl (by decide) (ci := 4) rfl rfl rfl rfl (Nat.le_of_ble_eq_true rfl) dX4_answer_16 ⟨by decide, by decide⟩ (fun E hx => zz_xn hx) (fun q4 q4r => ?_)
    obtain ⟨q4a, q4b⟩ := id q4r
    refine gd_top (y := zz_mow (S 95) (S 96) x.toNat) rfl ?_
    have q4n : zz_R (zz_mow (S 95) (S 96) x.toNat) := q4r
    obtain ⟨q4na, q4nb⟩ := id q4n
    have q4F : zz_mow (S 95) (S 96) x.toNat = 0 ∨ zz_mow (S 95) (S 96) x.toNat = 1 := q4
    refine gd_if_ne hC dX4_answer_19 (tgt := 28) (by decide) ⟨by omega, by omega⟩ (fun c5 => ?_) (fun c5 => ?_)
    · skip
      refine gd_aload_n hC dX4_answer_28 rfl (j := 0) rfl ?_
      refine gd_getR hC w4 hK (ci := 4) rfl (by decide) rfl 23 (by decide) (j := 96) rfl f66 rfl dX4_answer_29 ?_
      refine gd_iload_n hC dX4_answer_32 rfl (j := 1) rfl ?_
      refine gd_iconst hC dX4_answer_33 ?_
      refine gd_zast hC hK (j := x.toNat) rfl (by decide) (by omega) (by omega) (by decide) ⟨by decide, by decide⟩ (zz_nz (by omega)) dX4_answer_34 ?_
      refine gd_aload_n hC dX4_answer_35 rfl (j := 0) rfl ?_
      refine gd_getI hC w4 hK (ci := 4) rfl (by decide) rfl 0 (by decide) rfl f107 rfl dX4_answer_36 (fun r6 => ?_)
      obtain ⟨r6a, r6b⟩ := id r6
      refine gd_top (y := S 77 0) ((zz_u_ne _ _ (by omega)).trans (zz_u_ne _ _ (by omega))) ?_
      rw [((zz_u_ne _ _ (by omega)).trans (zz_u_ne _ _ (by omega)) : (zz_u (zz_u (S) (77) (26) (0)) (96) (x.toNat) (1)) (77) (0) = S 77 0)] at r6a r6b
      refine gd_aload_n hC dX4_answer_39 rfl (j := 0) rfl ?_
      refine gd_getR hC w4 hK (ci := 4) rfl (by decide) rfl 22 (by decide) (j := 95) rfl f63 rfl dX4_answer_40 ?_
      refine gd_iload_n hC dX4_answer_43 rfl (j := 1) rfl ?_
      refine gd_iald hC hK (j := x.toNat) rfl (by decide) (by omega) (by omega) (by decide) dX4_answer_44 (fun r7 => ?_)
      obtain ⟨r7a, r7b⟩ := id r7
      refine gd_top (y := S 95 x.toNat) ((zz_u_ne _ _ (by omega)).trans (zz_u_ne _ _ (by omega))) ?_
      rw [((zz_u_ne _ _ (by omega)).trans (zz_u_ne _ _ (by omega)) : (zz_u (zz_u (S) (77) (26) (0)) (96) (x.toNat) (1)) (95) (x.toNat) = S 95 x.toNat)] at r7a r7b
      refine gd_isub hC dX4_answer_45 ?_
      exact gd_ireturn hC hr rfl hlk dX4_answer_46 (by decide) ⟨_, ⟨by omega, by omega⟩, rfl, (z2 (by omega)).2.symm, (z2 (by omega)).1.symm, trivial⟩
    · skip
      refine gd_aload_n hC dX4_answer_22 rfl (j := 0) rfl ?_
      refine gd_iconst hC dX4_answer_23 ?_
      refine gd_callVR (As := [zz_v 2]) (rest := []) hC hF (fun hR => c_X4_fails l hl9 N0 G Y a (zz_u (S) (77) (26) (0)) 2 ⟨by decide, by decide⟩) (cwV 1 hts gX4_answer_X4_fails rfl rfl rfl (by decide +kernel) ⟨by decide, by decide⟩) rfl (by decide) (ci := 4) rfl rfl rfl rfl (Nat.le_of_ble_eq_true rfl) dX4_answer_24 ⟨by decide, by decide⟩ (fun E hx => zz_xn hx) (fun q8 q8r => ?_)
      obtain ⟨q8a, q8b⟩ := id q8r
      exact gd_ireturn hC hr rfl hlk dX4_answer_27 (by decide) ⟨_, ⟨by decide, by decide⟩, rfl, (z1 (by omega)).2.symm, (z1 (by omega)).1.symm, trivial⟩
  · skip
    refine gd_eq (S' := zz_u (S) (77) (26) (1)) (by rw [if_pos (by omega)]) ?_
    refine gd_iconst hC dX4_answer_12 ?_
    exact gd_ireturn hC hr rfl hlk dX4_answer_13 (by decide) ⟨_, ⟨by decide, by decide⟩, rfl, (z0 (by omega)).2.symm, (z0 (by omega)).1.symm, trivial⟩

abbrev rm_X4_hear : Room := { frames := 2, cells := 0, slots := 0, locals := 43 }
set_option maxHeartbeats 4000000 in
set_option maxRecDepth 100000 in
theorem c_X4_hear (l : Launch) (hl9 : l.stackTraces = false) (N0 : Nat) (G : zz_G) (Y : zz_Y) (a : Nat → Nat) (S : zz_S) (x : Int) (hx : zz_R x) (hI : zz_IM S) (S1 : zz_S) (z0 : ¬ (0 ≤ x ∧ x ≤ S 77 17 - 1) → S1 = zz_u (S) 77 26 1) (z1 : (0 ≤ x ∧ x ≤ S 77 17 - 1) ∧ ¬ (S 92 x.toNat = 0 ∧ ¬ S 96 x.toNat = 0 ∧ S 97 x.toNat = 0) → S1 = zz_u ((zz_u S 77 26 0)) 77 26 2) (z2 : (0 ≤ x ∧ x ≤ S 77 17 - 1) ∧ (S 92 x.toNat = 0 ∧ ¬ S 96 x.toNat = 0 ∧ S 97 x.toNat = 0) → S1 = zz_u ((zz_u S 77 26 0)) 97 x.toNat 1) : CtN l yX4_hear wsX4_hear rm_X4_hear 0 [.ref (a 77), zz_v x] N0 G Y a S (S1) (True) (False) (False) (False) := by
  refine Ct_.of (cc := cX4_hear) (maxL := 2) (ret := none) (by decide) rfl (Nat.le_of_ble_eq_true rfl) ?_
  intro p e s m args below meth c hC hts hr hlk hex hF
  have hK := hF.2.1
  have w4 : ∀ w ∈ u_ws RX4 TX4 27, w.before args s = true := fun w h => hts w (List.mem_cons_of_mem _ (List.mem_append_right _ h))
  have f54 : (Cond.fieldLink RX4 54 "GrievancehallModel" "state" "[I").before args s = true := hts _ (by decide +kernel)
  have f66 : (Cond.fieldLink RX4 66 "GrievancehallModel" "isAnswered" "[Z").before args s = true := hts _ (by decide +kernel)
  have f69 : (Cond.fieldLink RX4 69 "GrievancehallModel" "isHeard" "[Z").before args s = true := hts _ (by decide +kernel)
  have f75 : (Cond.fieldLink RX4 75 "GrievancehallModel" "thrown" "I").before args s = true := hts _ (by decide +kernel)
  refine gd_lveq (lv' := [(0, .ref (a 77)), (1, zz_v x)]) rfl ?_
  obtain ⟨imd, iml, imo, ima, imc, iaf, ilm, iwh, ikd, itd, ims, ihm, ict, iwv, ipl, iab, ist, ilf, ipe, iak, ian, ihe, ifn, iav, iod⟩ := id hI
  obtain ⟨hx1, hx2⟩ := id hx
  refine gd_aload_n hC dX4_hear_0 rfl (j := 0) rfl ?_
  refine gd_aload_n hC dX4_hear_1 rfl (j := 0) rfl ?_
  refine gd_iload_n hC dX4_hear_2 rfl (j := 1) rfl ?_
  refine gd_callVR (As := [zz_v x]) (rest := [.ref (a 77)]) hC hF (fun hR => c_X4_isComplaint l hl9 N0 G Y a (S) x ⟨by omega, by omega⟩ (by omega)) (cwV 1 hts gX4_hear_X4_isComplaint rfl rfl rfl (by decide +kernel) ⟨by decide, by decide⟩) rfl (by decide) (ci := 4) rfl rfl rfl rfl (Nat.le_of_ble_eq_true rfl) dX4_hear_3 ⟨by decide, by decide⟩ (fun E hx => zz_xn hx) (fun q1 q1r => ?_)
  obtain ⟨q1a, q1b⟩ := id q1r
  refine gd_callVR (As := [zz_v (if 0 ≤ x ∧ x ≤ S 77 17 - 1 then 1 else 0)]) (rest := []) hC hF (fun hR => c_X4_asks l hl9 N0 G Y a (S) (if 0 ≤ x ∧ x ≤ S 77 17 - 1 then 1 else 0) (by omega)) (cwV 1 hts gX4_hear_X4_asks rfl rfl rfl (by decide +kernel) ⟨by decide, by decide⟩) rfl (by decide) (ci := 4) rfl rfl rfl rfl (Nat.le_of_ble_eq_true rfl) dX4_hear_6 ⟨by decide, by decide⟩ (fun E hx => zz_xn hx) (fun q2 q2r => ?_)
  obtain ⟨q2a, q2b⟩ := id q2r
  refine gd_if_ne hC dX4_hear_9 (tgt := 13) (by decide) ⟨by omega, by omega⟩ (fun c3 => ?_) (fun c3 => ?_)
  · skip
    refine gd_eq (S' := zz_u (S) (77) (26) (0)) (by rw [if_neg (by omega)]) ?_
    refine gd_aload_n hC dX4_hear_13 rfl (j := 0) rfl ?_
    refine gd_getR hC w4 hK (ci := 4) rfl (by decide) rfl 19 (by decide) (j := 92) rfl f54 rfl dX4_hear_14 ?_
    refine gd_iload_n hC dX4_hear_17 rfl (j := 1) rfl ?_
    refine gd_iald hC hK (j := x.toNat) rfl (by decide) (by omega) (by omega) (by decide) dX4_hear_18 (fun r4 => ?_)
    obtain ⟨r4a, r4b⟩ := id r4
    refine gd_top (y := S 92 x.toNat) (zz_u_ne _ _ (by omega)) ?_
    rw [(zz_u_ne _ _ (by omega) : (zz_u (S) (77) (26) (0)) (92) (x.toNat) = S 92 x.toNat)] at r4a r4b
    refine gd_if_ne hC dX4_hear_19 (tgt := 40) (by decide) ⟨by omega, by omega⟩ (fun c5 => ?_) (fun c5 => ?_)
    · skip
      refine gd_aload_n hC dX4_hear_40 rfl (j := 0) rfl ?_
      refine gd_iconst hC dX4_hear_41 ?_
      refine gd_put hC w4 tyX4 tyX4_ok nmX4 hK (ci := 4) rfl (by decide) rfl 26 (by decide) rfl f75 rfl rfl (ty := .int) (by decide +kernel) rfl rfl ⟨by decide, by decide⟩ dX4_hear_42 ?_
      exact gd_return hC hr hlk dX4_hear_45 (by decide) ⟨rfl, (z1 (by omega)).symm, trivial⟩
    · skip
      refine gd_aload_n hC dX4_hear_22 rfl (j := 0) rfl ?_
      refine gd_getR hC w4 hK (ci := 4) rfl (by decide) rfl 23 (by decide) (j := 96) rfl f66 rfl dX4_hear_23 ?_
      refine gd_iload_n hC dX4_hear_26 rfl (j := 1) rfl ?_
      refine gd_zald hC hK (j := x.toNat) rfl (by decide) (by omega) (by omega) (by decide) dX4_hear_27 (fun r6 => ?_)
      obtain ⟨r6a, r6b⟩ := id r6
      refine gd_top (y := S 96 x.toNat) (zz_u_ne _ _ (by omega)) ?_
      rw [(zz_u_ne _ _ (by omega) : (zz_u (S) (77) (26) (0)) (96) (x.toNat) = S 96 x.toNat)] at r6a r6b
      refine gd_if_eq hC dX4_hear_28 (tgt := 40) (by decide) ⟨by omega, by omega⟩ (fun c7 => ?_) (fun c7 => ?_)
      · skip
        refine gd_aload_n hC dX4_hear_40 rfl (j := 0) rfl ?_
        refine gd_iconst hC dX4_hear_41 ?_
        refine gd_put hC w4 tyX4 tyX4_ok nmX4 hK (ci := 4) rfl (by decide) rfl 26 (by decide) rfl f75 rfl rfl (ty := .int) (by decide +kernel) rfl rfl ⟨by decide, by decide⟩ dX4_hear_42 ?_
        exact gd_return hC hr hlk dX4_hear_45 (by decide) ⟨rfl, (z1 (by omega)).symm, trivial⟩
      · skip
        refine gd_aload_n hC dX4_hear_31 rfl (j := 0) rfl ?_
        refine gd_getR hC w4 hK (ci := 4) rfl (by decide) rfl 24 (by decide) (j := 97) rfl f69 rfl dX4_hear_32 ?_
        refine gd_iload_n hC dX4_hear_35 rfl (j := 1) rfl ?_
        refine gd_zald hC hK (j := x.toNat) rfl (by decide) (by omega) (by omega) (by decide) dX4_hear_36 (fun r8 => ?_)
        obtain ⟨r8a, r8b⟩ := id r8
        refine gd_top (y := S 97 x.toNat) (zz_u_ne _ _ (by omega)) ?_
        rw [(zz_u_ne _ _ (by omega) : (zz_u (S) (77) (26) (0)) (97) (x.toNat) = S 97 x.toNat)] at r8a r8b
        refine gd_if_eq hC dX4_hear_37 (tgt := 46) (by decide) ⟨by omega, by omega⟩ (fun c9 => ?_) (fun c9 => ?_)
        · skip
          refine gd_aload_n hC dX4_hear_46 rfl (j := 0) rfl ?_
          refine gd_getR hC w4 hK (ci := 4) rfl (by decide) rfl 24 (by decide) (j := 97) rfl f69 rfl dX4_hear_47 ?_
          refine gd_iload_n hC dX4_hear_50 rfl (j := 1) rfl ?_
          refine gd_iconst hC dX4_hear_51 ?_
          refine gd_zast hC hK (j := x.toNat) rfl (by decide) (by omega) (by omega) (by decide) ⟨by decide, by decide⟩ (zz_nz (by omega)) dX4_hear_52 ?_
          exact gd_return hC hr hlk dX4_hear_53 (by decide) ⟨rfl, (z2 (by omega)).symm, trivial⟩
        · skip
          refine gd_aload_n hC dX4_hear_40 rfl (j := 0) rfl ?_
          refine gd_iconst hC dX4_hear_41 ?_
          refine gd_put hC w4 tyX4 tyX4_ok nmX4 hK (ci := 4) rfl (by decide) rfl 26 (by decide) rfl f75 rfl rfl (ty := .int) (by decide +kernel) rfl rfl ⟨by decide, by decide⟩ dX4_hear_42 ?_
          exact gd_return hC hr hlk dX4_hear_45 (by decide) ⟨rfl, (z1 (by omega)).symm, trivial⟩
  · skip
    refine gd_eq (S' := zz_u (S) (77) (26) (1)) (by rw [if_pos (by omega)]) ?_
    exact gd_return hC hr hlk dX4_hear_12 (by decide) ⟨rfl, (z0 (by omega)).symm, trivial⟩

abbrev rm_X4_find : Room := { frames := 4, cells := 0, slots := 0, locals := 90 }
set_option maxHeartbeats 4000000 in
set_option maxRecDepth 100000 in
theorem c_X4_find (l : Launch) (hl9 : l.stackTraces = false) (N0 : Nat) (G : zz_G) (Y : zz_Y) (a : Nat → Nat) (S : zz_S) (x : Int) (hx : zz_R x) (hI : zz_IM S) (e1 : Int) (S1 : zz_S) (z0 : ¬ (0 ≤ x ∧ x ≤ S 77 17 - 1) → e1 = 0 ∧ S1 = zz_u (S) 77 26 1) (z1 : (0 ≤ x ∧ x ≤ S 77 17 - 1) ∧ ¬ (S 92 x.toNat = 0 ∧ ¬ S 97 x.toNat = 0) → e1 = 0 ∧ S1 = zz_u ((zz_u S 77 26 0)) 77 26 2) (z2 : (0 ≤ x ∧ x ≤ S 77 17 - 1) ∧ (S 92 x.toNat = 0 ∧ ¬ S 97 x.toNat = 0) → e1 = zz_mft (S 85) (S 81) (S 83) (S 84) (S 82) (S 77 7).toNat (S 91 x.toNat).toNat ∧ S1 = zz_u (zz_u ((zz_u S 77 26 0)) 92 x.toNat 1) 98 x.toNat (zz_mft (S 85) (S 81) (S 83) (S 84) (S 82) (S 77 7).toNat (S 91 x.toNat).toNat)) : CtR l yX4_find wsX4_find rm_X4_find 0 [.ref (a 77), zz_v x] N0 G Y a S (e1) (S1) (True) (False) (False) (False) := by
  refine Ct_.of (cc := cX4_find) (maxL := 2) (ret := (some .int)) (by decide) rfl (Nat.le_of_ble_eq_true rfl) ?_
  intro p e s m args below meth c hC hts hr hlk hex hF
  have hK := hF.2.1
  have w4 : ∀ w ∈ u_ws RX4 TX4 27, w.before args s = true := fun w h => hts w (List.mem_cons_of_mem _ (List.mem_append_right _ h))
  have f51 : (Cond.fieldLink RX4 51 "GrievancehallModel" "about" "[I").before args s = true := hts _ (by decide +kernel)
  have f54 : (Cond.fieldLink RX4 54 "GrievancehallModel" "state" "[I").before args s = true := hts _ (by decide +kernel)
  have f69 : (Cond.fieldLink RX4 69 "GrievancehallModel" "isHeard" "[Z").before args s = true := hts _ (by decide +kernel)
  have f72 : (Cond.fieldLink RX4 72 "GrievancehallModel" "finding" "[I").before args s = true := hts _ (by decide +kernel)
  refine gd_lveq (lv' := [(0, .ref (a 77)), (1, zz_v x)]) rfl ?_
  obtain ⟨imd, iml, imo, ima, imc, iaf, ilm, iwh, ikd, itd, ims, ihm, ict, iwv, ipl, iab, ist, ilf, ipe, iak, ian, ihe, ifn, iav, iod⟩ := id hI
  obtain ⟨hx1, hx2⟩ := id hx
  refine gd_aload_n hC dX4_find_0 rfl (j := 0) rfl ?_
  refine gd_aload_n hC dX4_find_1 rfl (j := 0) rfl ?_
  refine gd_iload_n hC dX4_find_2 rfl (j := 1) rfl ?_
  refine gd_callVR (As := [zz_v x]) (rest := [.ref (a 77)]) hC hF (fun hR => c_X4_isComplaint l hl9 N0 G Y a (S) x ⟨by omega, by omega⟩ (by omega)) (cwV 1 hts gX4_find_X4_isComplaint rfl rfl rfl (by decide +kernel) ⟨by decide, by decide⟩) rfl (by decide) (ci := 4) rfl rfl rfl rfl (Nat.le_of_ble_eq_true rfl) dX4_find_3 ⟨by decide, by decide⟩ (fun E hx => zz_xn hx) (fun q1 q1r => ?_)
  obtain ⟨q1a, q1b⟩ := id q1r
  refine gd_callVR (As := [zz_v (if 0 ≤ x ∧ x ≤ S 77 17 - 1 then 1 else 0)]) (rest := []) hC hF (fun hR => c_X4_asks l hl9 N0 G Y a (S) (if 0 ≤ x ∧ x ≤ S 77 17 - 1 then 1 else 0) (by omega)) (cwV 1 hts gX4_find_X4_asks rfl rfl rfl (by decide +kernel) ⟨by decide, by decide⟩) rfl (by decide) (ci := 4) rfl rfl rfl rfl (Nat.le_of_ble_eq_true rfl) dX4_find_6 ⟨by decide, by decide⟩ (fun E hx => zz_xn hx) (fun q2 q2r => ?_)
  obtain ⟨q2a, q2b⟩ := id q2r
  refine gd_if_ne hC dX4_find_9 (tgt := 14) (by decide) ⟨by omega, by omega⟩ (fun c3 => ?_) (fun c3 => ?_)
  · skip
    refine gd_eq (S' := zz_u (S) (77) (26) (0)) (by rw [if_neg (by omega)]) ?_
    refine gd_aload_n hC dX4_find_14 rfl (j := 0) rfl ?_
    refine gd_getR hC w4 hK (ci := 4) rfl (by decide) rfl 19 (by decide) (j := 92) rfl f54 rfl dX4_find_15 ?_
    refine gd_iload_n hC dX4_find_18 rfl (j := 1) rfl ?_
    refine gd_iald hC hK (j := x.toNat) rfl (by decide) (by omega) (by omega) (by decide) dX4_find_19 (fun r4 => ?_)
    obtain ⟨r4a, r4b⟩ := id r4
    refine gd_top (y := S 92 x.toNat) (zz_u_ne _ _ (by omega)) ?_
    rw [(zz_u_ne _ _ (by omega) : (zz_u (S) (77) (26) (0)) (92) (x.toNat) = S 92 x.toNat)] at r4a r4b
    refine gd_if_ne hC dX4_find_20 (tgt := 32) (by decide) ⟨by omega, by omega⟩ (fun c5 => ?_) (fun c5 => ?_)
    · skip
      refine gd_aload_n hC dX4_find_32 rfl (j := 0) rfl ?_
      refine gd_iconst hC dX4_find_33 ?_
      refine gd_callVR (As := [zz_v 2]) (rest := []) hC hF (fun hR => c_X4_fails l hl9 N0 G Y a (zz_u (S) (77) (26) (0)) 2 ⟨by decide, by decide⟩) (cwV 1 hts gX4_find_X4_fails rfl rfl rfl (by decide +kernel) ⟨by decide, by decide⟩) rfl (by decide) (ci := 4) rfl rfl rfl rfl (Nat.le_of_ble_eq_true rfl) dX4_find_34 ⟨by decide, by decide⟩ (fun E hx => zz_xn hx) (fun q6 q6r => ?_)
      obtain ⟨q6a, q6b⟩ := id q6r
      exact gd_ireturn hC hr rfl hlk dX4_find_37 (by decide) ⟨_, ⟨by decide, by decide⟩, rfl, (z1 (by omega)).2.symm, (z1 (by omega)).1.symm, trivial⟩
    · skip
      refine gd_aload_n hC dX4_find_23 rfl (j := 0) rfl ?_
      refine gd_getR hC w4 hK (ci := 4) rfl (by decide) rfl 24 (by decide) (j := 97) rfl f69 rfl dX4_find_24 ?_
      refine gd_iload_n hC dX4_find_27 rfl (j := 1) rfl ?_
      refine gd_zald hC hK (j := x.toNat) rfl (by decide) (by omega) (by omega) (by decide) dX4_find_28 (fun r7 => ?_)
      obtain ⟨r7a, r7b⟩ := id r7
      refine gd_top (y := S 97 x.toNat) (zz_u_ne _ _ (by omega)) ?_
      rw [(zz_u_ne _ _ (by omega) : (zz_u (S) (77) (26) (0)) (97) (x.toNat) = S 97 x.toNat)] at r7a r7b
      refine gd_if_ne hC dX4_find_29 (tgt := 38) (by decide) ⟨by omega, by omega⟩ (fun c8 => ?_) (fun c8 => ?_)
      · skip
        have hiab_ := iab x.toNat (by omega)
        refine gd_aload_n hC dX4_find_38 rfl (j := 0) rfl ?_
        refine gd_getR hC w4 hK (ci := 4) rfl (by decide) rfl 19 (by decide) (j := 92) rfl f54 rfl dX4_find_39 ?_
        refine gd_iload_n hC dX4_find_42 rfl (j := 1) rfl ?_
        refine gd_iconst hC dX4_find_43 ?_
        refine gd_iast hC hK (j := x.toNat) rfl (by decide) (by omega) (by omega) (by decide) ⟨by decide, by decide⟩ dX4_find_44 ?_
        refine gd_aload_n hC dX4_find_45 rfl (j := 0) rfl ?_
        refine gd_getR hC w4 hK (ci := 4) rfl (by decide) rfl 25 (by decide) (j := 98) rfl f72 rfl dX4_find_46 ?_
        refine gd_iload_n hC dX4_find_49 rfl (j := 1) rfl ?_
        refine gd_aload_n hC dX4_find_50 rfl (j := 0) rfl ?_
        refine gd_aload_n hC dX4_find_51 rfl (j := 0) rfl ?_
        refine gd_getR hC w4 hK (ci := 4) rfl (by decide) rfl 18 (by decide) (j := 91) rfl f51 rfl dX4_find_52 ?_
        refine gd_iload_n hC dX4_find_55 rfl (j := 1) rfl ?_
        refine gd_iald hC hK (j := x.toNat) rfl (by decide) (by omega) (by omega) (by decide) dX4_find_56 (fun r9 => ?_)
        obtain ⟨r9a, r9b⟩ := id r9
        refine gd_top (y := S 91 x.toNat) ((zz_u_ne _ _ (by omega)).trans (zz_u_ne _ _ (by omega))) ?_
        rw [((zz_u_ne _ _ (by omega)).trans (zz_u_ne _ _ (by omega)) : (zz_u (zz_u (S) (77) (26) (0)) (92) (x.toNat) (1)) (91) (x.toNat) = S 91 x.toNat)] at r9a r9b
        refine gd_callVR (As := [zz_v (S 91 x.toNat)]) (rest := [zz_v x, .ref (a 98)]) hC hF (fun hR => c_X4_faultOf l hl9 N0 G Y a (zz_u (zz_u (S) (77) (26) (0)) (92) (x.toNat) (1)) (S 91 x.toNat) (S 91 x.toNat).toNat (by omega) (by omega) ima ims ikd itd) (cwV 1 hts gX4_find_X4_faultOf rfl rfl rfl (by decide +kernel) ⟨by decide, by decide⟩) rfl (by decide) (ci := 4) rfl rfl rfl rfl (Nat.le_of_ble_eq_true rfl) dX4_find_57 ⟨by decide, by decide⟩ (fun E hx => zz_xn hx) (fun q10 q10r => ?_)
        obtain ⟨q10a, q10b⟩ := id q10r
        refine gd_top (y := zz_mft (S 85) (S 81) (S 83) (S 84) (S 82) (S 77 7).toNat (S 91 x.toNat).toNat) rfl ?_
        have q10n : zz_R (zz_mft (S 85) (S 81) (S 83) (S 84) (S 82) (S 77 7).toNat (S 91 x.toNat).toNat) := q10r
        obtain ⟨q10na, q10nb⟩ := id q10n
        have q10F : 0 ≤ zz_mft (S 85) (S 81) (S 83) (S 84) (S 82) (S 77 7).toNat (S 91 x.toNat).toNat ∧ zz_mft (S 85) (S 81) (S 83) (S 84) (S 82) (S 77 7).toNat (S 91 x.toNat).toNat ≤ 3 := q10
        refine gd_iast hC hK (j := x.toNat) rfl (by decide) (by omega) (by omega) (by decide) ⟨by omega, by omega⟩ dX4_find_60 ?_
        refine gd_aload_n hC dX4_find_61 rfl (j := 0) rfl ?_
        refine gd_getR hC w4 hK (ci := 4) rfl (by decide) rfl 25 (by decide) (j := 98) rfl f72 rfl dX4_find_62 ?_
        refine gd_iload_n hC dX4_find_65 rfl (j := 1) rfl ?_
        refine gd_iald hC hK (j := x.toNat) rfl (by decide) (by omega) (by omega) (by decide) dX4_find_66 (fun r11 => ?_)
        obtain ⟨r11a, r11b⟩ := id r11
        refine gd_top (y := zz_mft (S 85) (S 81) (S 83) (S 84) (S 82) (S 77 7).toNat (S 91 x.toNat).toNat) (zz_u_same _ _ _ _) ?_
        rw [(zz_u_same _ _ _ _ : (zz_u (zz_u (zz_u (S) (77) (26) (0)) (92) (x.toNat) (1)) (98) (x.toNat) (zz_mft (S 85) (S 81) (S 83) (S 84) (S 82) (S 77 7).toNat (S 91 x.toNat).toNat)) (98) (x.toNat) = zz_mft (S 85) (S 81) (S 83) (S 84) (S 82) (S 77 7).toNat (S 91 x.toNat).toNat)] at r11a r11b
        exact gd_ireturn hC hr rfl hlk dX4_find_67 (by decide) ⟨_, ⟨by omega, by omega⟩, rfl, (z2 (by omega)).2.symm, (z2 (by omega)).1.symm, trivial⟩
      · skip
        refine gd_aload_n hC dX4_find_32 rfl (j := 0) rfl ?_
        refine gd_iconst hC dX4_find_33 ?_
        refine gd_callVR (As := [zz_v 2]) (rest := []) hC hF (fun hR => c_X4_fails l hl9 N0 G Y a (zz_u (S) (77) (26) (0)) 2 ⟨by decide, by decide⟩) (cwV 1 hts gX4_find_X4_fails rfl rfl rfl (by decide +kernel) ⟨by decide, by decide⟩) rfl (by decide) (ci := 4) rfl rfl rfl rfl (Nat.le_of_ble_eq_true rfl) dX4_find_34 ⟨by decide, by decide⟩ (fun E hx => zz_xn hx) (fun q12 q12r => ?_)
        obtain ⟨q12a, q12b⟩ := id q12r
        exact gd_ireturn hC hr rfl hlk dX4_find_37 (by decide) ⟨_, ⟨by decide, by decide⟩, rfl, (z1 (by omega)).2.symm, (z1 (by omega)).1.symm, trivial⟩
  · skip
    refine gd_eq (S' := zz_u (S) (77) (26) (1)) (by rw [if_pos (by omega)]) ?_
    refine gd_iconst hC dX4_find_12 ?_
    exact gd_ireturn hC hr rfl hlk dX4_find_13 (by decide) ⟨_, ⟨by decide, by decide⟩, rfl, (z0 (by omega)).2.symm, (z0 (by omega)).1.symm, trivial⟩

abbrev rm_X4_remedy : Room := { frames := 4, cells := 0, slots := 0, locals := 90 }
set_option maxHeartbeats 4000000 in
set_option maxRecDepth 100000 in
theorem c_X4_remedy (l : Launch) (hl9 : l.stackTraces = false) (N0 : Nat) (G : zz_G) (Y : zz_Y) (a : Nat → Nat) (S : zz_S) (x y : Int) (hx : zz_R x) (hy : zz_R y) (hI : zz_IM S) (e1 : Int) (S1 : zz_S) (z0 : ¬ (0 ≤ x ∧ x ≤ S 77 17 - 1) → e1 = 0 ∧ S1 = zz_u (S) 77 26 1) (z1 : (0 ≤ x ∧ x ≤ S 77 17 - 1) ∧ ¬ (0 ≤ y ∧ y ≤ 100) → e1 = 0 ∧ S1 = zz_u ((zz_u S 77 26 0)) 77 26 2) (z2 : ((0 ≤ x ∧ x ≤ S 77 17 - 1) ∧ (0 ≤ y ∧ y ≤ 100)) ∧ ¬ (S 92 x.toNat = 1 ∧ ¬ S 98 x.toNat = 0) → e1 = 0 ∧ S1 = zz_u ((zz_u S 77 26 0)) 77 26 3) (z3 : ((0 ≤ x ∧ x ≤ S 77 17 - 1) ∧ (0 ≤ y ∧ y ≤ 100)) ∧ (S 92 x.toNat = 1 ∧ ¬ S 98 x.toNat = 0) → e1 = zz_mrn (S 91) (S 85) (S 81) (S 83) (S 84) (S 82) (S 77 7).toNat x.toNat (S 77 7).toNat ∧ S1 = zz_mrS (zz_u S 77 26 0) (S 77 7).toNat x.toNat y (S 77 7).toNat) : CtR l yX4_remedy wsX4_remedy rm_X4_remedy 0 [.ref (a 77), zz_v x, zz_v y] N0 G Y a S (e1) (S1) (True) (False) (False) (False) := by
  refine Ct_.of (cc := cX4_remedy) (maxL := 6) (ret := (some .int)) (by decide) rfl (Nat.le_of_ble_eq_true rfl) ?_
  intro p e s m args below meth c hC hts hr hlk hex hF
  have hK := hF.2.1
  have w4 : ∀ w ∈ u_ws RX4 TX4 27, w.before args s = true := fun w h => hts w (List.mem_cons_of_mem _ (List.mem_append_right _ h))
  have f35 : (Cond.fieldLink RX4 35 "GrievancehallModel" "harm" "[I").before args s = true := hts _ (by decide +kernel)
  have f45 : (Cond.fieldLink RX4 45 "GrievancehallModel" "remedy" "[I").before args s = true := hts _ (by decide +kernel)
  have f51 : (Cond.fieldLink RX4 51 "GrievancehallModel" "about" "[I").before args s = true := hts _ (by decide +kernel)
  have f54 : (Cond.fieldLink RX4 54 "GrievancehallModel" "state" "[I").before args s = true := hts _ (by decide +kernel)
  have f72 : (Cond.fieldLink RX4 72 "GrievancehallModel" "finding" "[I").before args s = true := hts _ (by decide +kernel)
  have f86 : (Cond.fieldLink RX4 86 "GrievancehallModel" "acts" "I").before args s = true := hts _ (by decide +kernel)
  refine gd_lveq (lv' := [(0, .ref (a 77)), (1, zz_v x), (2, zz_v y)]) rfl ?_
  obtain ⟨imd, iml, imo, ima, imc, iaf, ilm, iwh, ikd, itd, ims, ihm, ict, iwv, ipl, iab, ist, ilf, ipe, iak, ian, ihe, ifn, iav, iod⟩ := id hI
  obtain ⟨hx1, hx2⟩ := id hx
  obtain ⟨hy1, hy2⟩ := id hy
  refine gd_aload_n hC dX4_remedy_0 rfl (j := 0) rfl ?_
  refine gd_aload_n hC dX4_remedy_1 rfl (j := 0) rfl ?_
  refine gd_iload_n hC dX4_remedy_2 rfl (j := 1) rfl ?_
  refine gd_callVR (As := [zz_v x]) (rest := [.ref (a 77)]) hC hF (fun hR => c_X4_isComplaint l hl9 N0 G Y a (S) x ⟨by omega, by omega⟩ (by omega)) (cwV 1 hts gX4_remedy_X4_isComplaint rfl rfl rfl (by decide +kernel) ⟨by decide, by decide⟩) rfl (by decide) (ci := 4) rfl rfl rfl rfl (Nat.le_of_ble_eq_true rfl) dX4_remedy_3 ⟨by decide, by decide⟩ (fun E hx => zz_xn hx) (fun q1 q1r => ?_)
  obtain ⟨q1a, q1b⟩ := id q1r
  refine gd_callVR (As := [zz_v (if 0 ≤ x ∧ x ≤ S 77 17 - 1 then 1 else 0)]) (rest := []) hC hF (fun hR => c_X4_asks l hl9 N0 G Y a (S) (if 0 ≤ x ∧ x ≤ S 77 17 - 1 then 1 else 0) (by omega)) (cwV 1 hts gX4_remedy_X4_asks rfl rfl rfl (by decide +kernel) ⟨by decide, by decide⟩) rfl (by decide) (ci := 4) rfl rfl rfl rfl (Nat.le_of_ble_eq_true rfl) dX4_remedy_6 ⟨by decide, by decide⟩ (fun E hx => zz_xn hx) (fun q2 q2r => ?_)
  obtain ⟨q2a, q2b⟩ := id q2r
  refine gd_if_ne hC dX4_remedy_9 (tgt := 14) (by decide) ⟨by omega, by omega⟩ (fun c3 => ?_) (fun c3 => ?_)
  · skip
    refine gd_eq (S' := zz_u (S) (77) (26) (0)) (by rw [if_neg (by omega)]) ?_
    refine gd_iload_n hC dX4_remedy_14 rfl (j := 2) rfl ?_
    refine gd_iconst hC dX4_remedy_15 ?_
    refine gd_bipush hC dX4_remedy_16 rfl ?_
    refine gd_callSR (As := [zz_v y, zz_v 0, zz_v 100]) (rest := []) hC hF (fun hR => c_X4_in l hl9 N0 G Y a (zz_u (S) (77) (26) (0)) y 0 100 ⟨by omega, by omega⟩ ⟨by decide, by decide⟩ ⟨by decide, by decide⟩) (va_cwS 3 hts gX4_remedy_X4_in rfl rfl rfl (by decide +kernel) ⟨by decide, by decide⟩) rfl rfl (Nat.le_of_ble_eq_true rfl) dX4_remedy_18 ⟨by decide, by decide⟩ (fun E hx => zz_xn hx) (fun q4 q4r => ?_)
    obtain ⟨q4a, q4b⟩ := id q4r
    refine gd_if_ne hC dX4_remedy_21 (tgt := 30) (by decide) ⟨by omega, by omega⟩ (fun c5 => ?_) (fun c5 => ?_)
    · skip
      refine gd_aload_n hC dX4_remedy_30 rfl (j := 0) rfl ?_
      refine gd_getR hC w4 hK (ci := 4) rfl (by decide) rfl 19 (by decide) (j := 92) rfl f54 rfl dX4_remedy_31 ?_
      refine gd_iload_n hC dX4_remedy_34 rfl (j := 1) rfl ?_
      refine gd_iald hC hK (j := x.toNat) rfl (by decide) (by omega) (by omega) (by decide) dX4_remedy_35 (fun r6 => ?_)
      obtain ⟨r6a, r6b⟩ := id r6
      refine gd_top (y := S 92 x.toNat) (zz_u_ne _ _ (by omega)) ?_
      rw [(zz_u_ne _ _ (by omega) : (zz_u (S) (77) (26) (0)) (92) (x.toNat) = S 92 x.toNat)] at r6a r6b
      refine gd_iconst hC dX4_remedy_36 ?_
      refine gd_icmp_ne hC dX4_remedy_37 (tgt := 49) (by decide) ⟨by omega, by omega⟩ ⟨by decide, by decide⟩ (fun c7 => ?_) (fun c7 => ?_)
      · skip
        refine gd_aload_n hC dX4_remedy_49 rfl (j := 0) rfl ?_
        refine gd_iconst hC dX4_remedy_50 ?_
        refine gd_callVR (As := [zz_v 3]) (rest := []) hC hF (fun hR => c_X4_fails l hl9 N0 G Y a (zz_u (S) (77) (26) (0)) 3 ⟨by decide, by decide⟩) (cwV 1 hts gX4_remedy_X4_fails rfl rfl rfl (by decide +kernel) ⟨by decide, by decide⟩) rfl (by decide) (ci := 4) rfl rfl rfl rfl (Nat.le_of_ble_eq_true rfl) dX4_remedy_51 ⟨by decide, by decide⟩ (fun E hx => zz_xn hx) (fun q8 q8r => ?_)
        obtain ⟨q8a, q8b⟩ := id q8r
        exact gd_ireturn hC hr rfl hlk dX4_remedy_54 (by decide) ⟨_, ⟨by decide, by decide⟩, rfl, (z2 (by omega)).2.symm, (z2 (by omega)).1.symm, trivial⟩
      · skip
        refine gd_aload_n hC dX4_remedy_40 rfl (j := 0) rfl ?_
        refine gd_getR hC w4 hK (ci := 4) rfl (by decide) rfl 25 (by decide) (j := 98) rfl f72 rfl dX4_remedy_41 ?_
        refine gd_iload_n hC dX4_remedy_44 rfl (j := 1) rfl ?_
        refine gd_iald hC hK (j := x.toNat) rfl (by decide) (by omega) (by omega) (by decide) dX4_remedy_45 (fun r9 => ?_)
        obtain ⟨r9a, r9b⟩ := id r9
        refine gd_top (y := S 98 x.toNat) (zz_u_ne _ _ (by omega)) ?_
        rw [(zz_u_ne _ _ (by omega) : (zz_u (S) (77) (26) (0)) (98) (x.toNat) = S 98 x.toNat)] at r9a r9b
        refine gd_if_ne hC dX4_remedy_46 (tgt := 55) (by decide) ⟨by omega, by omega⟩ (fun c10 => ?_) (fun c10 => ?_)
        · skip
          have hiab_ := iab x.toNat (by omega)
          refine gd_aload_n hC dX4_remedy_55 rfl (j := 0) rfl ?_
          refine gd_getR hC w4 hK (ci := 4) rfl (by decide) rfl 18 (by decide) (j := 91) rfl f51 rfl dX4_remedy_56 ?_
          refine gd_iload_n hC dX4_remedy_59 rfl (j := 1) rfl ?_
          refine gd_iald hC hK (j := x.toNat) rfl (by decide) (by omega) (by omega) (by decide) dX4_remedy_60 (fun r11 => ?_)
          obtain ⟨r11a, r11b⟩ := id r11
          refine gd_top (y := S 91 x.toNat) (zz_u_ne _ _ (by omega)) ?_
          rw [(zz_u_ne _ _ (by omega) : (zz_u (S) (77) (26) (0)) (91) (x.toNat) = S 91 x.toNat)] at r11a r11b
          refine gd_istore_n hC dX4_remedy_61 rfl (by decide) (lv' := [(3, zz_v (S 91 x.toNat)), (0, .ref (a 77)), (1, zz_v x), (2, zz_v y)]) rfl ?_
          refine gd_iconst hC dX4_remedy_62 ?_
          refine gd_istore hC dX4_remedy_63 (by decide) (lv' := [(4, zz_v 0), (3, zz_v (S 91 x.toNat)), (0, .ref (a 77)), (1, zz_v x), (2, zz_v y)]) rfl ?_
          refine gd_iconst hC dX4_remedy_65 ?_
          refine gd_istore hC dX4_remedy_66 (by decide) (lv' := [(5, zz_v 0), (4, zz_v 0), (3, zz_v (S 91 x.toNat)), (0, .ref (a 77)), (1, zz_v x), (2, zz_v y)]) rfl ?_
          refine gd_sub [3, 5, 2, 1, 0] (lv' := [(0, .ref (a 77)), (2, zz_v y), (3, zz_v (S 91 x.toNat)), (4, zz_v 0), (5, zz_v 0)]) rfl ?_
          refine gd_loop (σ := Nat) (μ := fun vz => (S 77 7).toNat - vz) (I := fun vz => (vz ≤ (S 77 7).toNat)) (Sf := fun vz => zz_mrS (zz_u S 77 26 0) (S 77 7).toNat x.toNat y vz) (lf := fun vz => [(0, .ref (a 77)), (2, zz_v y), (3, zz_v (S 91 x.toNat)), (4, zz_v (zz_mrn (S 91) (S 85) (S 81) (S 83) (S 84) (S 82) (S 77 7).toNat x.toNat vz)), (5, zz_v (vz : Int))]) 0 (by omega) rfl rfl (fun i hI ih68 => ?_)
          have hI0 : i ≤ (S 77 7).toNat := hI
          refine gd_lveq (lv' := [(0, .ref (a 77)), (2, zz_v y), (3, zz_v (S 91 x.toNat)), (4, zz_v (zz_mrn (S 91) (S 85) (S 81) (S 83) (S 84) (S 82) (S 77 7).toNat x.toNat i)), (5, zz_v (i : Int))]) rfl ?_
          refine gd_eq (S' := zz_mrS (zz_u S 77 26 0) (S 77 7).toNat x.toNat y i) rfl ?_
          have hof : ∀ k : Nat, k ≠ 89 → zz_mrS (zz_u S 77 26 0) (S 77 7).toNat x.toNat y i k = (zz_u S 77 26 0) k := fun k hk => zz_mrS_off _ _ _ _ hk i
          have hrn := zz_mrn_rng (S 91) (S 85) (S 81) (S 83) (S 84) (S 82) (S 77 7).toNat x.toNat i
          refine gd_iload hC dX4_remedy_68 (j := 4) rfl ?_
          refine gd_aload_n hC dX4_remedy_70 rfl (j := 0) rfl ?_
          refine gd_getI hC w4 hK (ci := 4) rfl (by decide) rfl 7 (by decide) rfl f86 rfl dX4_remedy_71 (fun r12 => ?_)
          obtain ⟨r12a, r12b⟩ := id r12
          refine gd_top (y := S 77 7) ((congrFun (hof 77 (by omega)) 7).trans (zz_u_ne _ _ (by omega))) ?_
          refine gd_icmp_ge hC dX4_remedy_74 (tgt := 130) (by decide) ⟨by omega, by omega⟩ ⟨by omega, by omega⟩ (fun c13 => ?_) (fun c13 => ?_)
          · skip
            refine gd_iload hC dX4_remedy_130 (j := 3) rfl ?_
            have hdn : (S 77 7).toNat = i := by omega
            exact gd_ireturn hC hr rfl hlk dX4_remedy_132 (by decide) ⟨_, ⟨by omega, by omega⟩, rfl, (by rw [(z3 (by omega)).2, show zz_mrS (zz_u S 77 26 0) (S 77 7).toNat x.toNat y (S 77 7).toNat = zz_mrS (zz_u S 77 26 0) (S 77 7).toNat x.toNat y i from congrArg _ hdn]), (by rw [(z3 (by omega)).1, show zz_mrn (S 91) (S 85) (S 81) (S 83) (S 84) (S 82) (S 77 7).toNat x.toNat (S 77 7).toNat = zz_mrn (S 91) (S 85) (S 81) (S 83) (S 84) (S 82) (S 77 7).toNat x.toNat i from congrArg _ hdn]), trivial⟩
          · skip
            refine gd_iload hC dX4_remedy_77 (j := 4) rfl ?_
            refine gd_iload_n hC dX4_remedy_79 rfl (j := 2) rfl ?_
            refine gd_icmp_eq hC dX4_remedy_80 (tgt := 102) (by decide) ⟨by omega, by omega⟩ ⟨by omega, by omega⟩ (fun c14 => ?_) (fun c14 => ?_)
            · skip
              refine gd_aload_n hC dX4_remedy_102 rfl (j := 0) rfl ?_
              refine gd_getR hC w4 hK (ci := 4) rfl (by decide) rfl 15 (by decide) (j := 89) rfl f45 rfl dX4_remedy_103 ?_
              refine gd_iload hC dX4_remedy_106 (j := 4) rfl ?_
              refine gd_iload_n hC dX4_remedy_108 rfl (j := 1) rfl ?_
              refine gd_aload_n hC dX4_remedy_109 rfl (j := 0) rfl ?_
              refine gd_getR hC w4 hK (ci := 4) rfl (by decide) rfl 12 (by decide) (j := 86) rfl f35 rfl dX4_remedy_110 ?_
              refine gd_iload hC dX4_remedy_113 (j := 4) rfl ?_
              refine gd_iald hC hK (j := i) rfl (by decide) rfl (by omega) (by decide) dX4_remedy_115 (fun r15 => ?_)
              obtain ⟨r15a, r15b⟩ := id r15
              refine gd_top (y := S 86 i) ((congrFun (hof 86 (by omega)) i).trans rfl) ?_
              have hhm := ihm i (by omega)
              have hmu := zz_mulb (show 0 ≤ y ∧ y ≤ 100 by omega) hhm
              refine gd_imul hC dX4_remedy_116 ?_
              refine gd_bipush hC dX4_remedy_117 rfl ?_
              refine gd_idiv hC dX4_remedy_119 ⟨by omega, by omega⟩ ⟨by omega, by omega⟩ ?_
              refine gd_iast hC hK (j := i) rfl (by decide) rfl (by omega) (by decide) ⟨by omega, by omega⟩ dX4_remedy_120 ?_
              refine gd_iinc hC dX4_remedy_121 (j := 3) rfl (y := zz_mrn (S 91) (S 85) (S 81) (S 83) (S 84) (S 82) (S 77 7).toNat x.toNat i + 1) (by omega) (by decide) (lv' := [(4, zz_v (zz_mrn (S 91) (S 85) (S 81) (S 83) (S 84) (S 82) (S 77 7).toNat x.toNat i + 1)), (0, .ref (a 77)), (2, zz_v y), (3, zz_v (S 91 x.toNat)), (5, zz_v (i : Int))]) rfl ?_
              refine gd_iinc hC dX4_remedy_124 (j := 4) rfl (y := ((i + 1 : Nat) : Int)) (by omega) (by decide) (lv' := [(5, zz_v ((i + 1 : Nat) : Int)), (4, zz_v (zz_mrn (S 91) (S 85) (S 81) (S 83) (S 84) (S 82) (S 77 7).toNat x.toNat i + 1)), (0, .ref (a 77)), (2, zz_v y), (3, zz_v (S 91 x.toNat))]) rfl ?_
              refine gd_goto hC dX4_remedy_127 (tgt := 68) (by decide) ?_
              refine gd_sub [2, 3, 4, 1, 0] (lv' := [(0, .ref (a 77)), (2, zz_v y), (3, zz_v (S 91 x.toNat)), (4, zz_v (zz_mrn (S 91) (S 85) (S 81) (S 83) (S 84) (S 82) (S 77 7).toNat x.toNat i + 1)), (5, zz_v ((i + 1 : Nat) : Int))]) rfl ?_
              have hq : zz_mrb (S 91) (S 85) (S 81) (S 83) (S 84) (S 82) (S 77 7).toNat x.toNat i = 1 := by unfold zz_mrb; omega
              have hz : zz_mrn (S 91) (S 85) (S 81) (S 83) (S 84) (S 82) (S 77 7).toNat x.toNat i + 1 = zz_mrn (S 91) (S 85) (S 81) (S 83) (S 84) (S 82) (S 77 7).toNat x.toNat (i + 1) := by rw [zz_mrn, hq]
              have hq2 : zz_mrb ((zz_u S 77 26 0) 91) ((zz_u S 77 26 0) 85) ((zz_u S 77 26 0) 81) ((zz_u S 77 26 0) 83) ((zz_u S 77 26 0) 84) ((zz_u S 77 26 0) 82) (S 77 7).toNat x.toNat i = 1 := hq
              refine gd_lveq (lv' := [(0, .ref (a 77)), (2, zz_v y), (3, zz_v (S 91 x.toNat)), (4, zz_v (zz_mrn (S 91) (S 85) (S 81) (S 83) (S 84) (S 82) (S 77 7).toNat x.toNat (i + 1))), (5, zz_v (((i + 1) : Nat) : Int))]) (by rw [hz]) ?_
              refine gd_eq (S' := zz_mrS (zz_u S 77 26 0) (S 77 7).toNat x.toNat y (i + 1)) (by rw [zz_mrS, hq2]; rfl) ?_
              exact ih68 (i + 1) (by omega) (show (S 77 7).toNat - (i + 1) < (S 77 7).toNat - i by omega)
            · skip
              refine gd_aload_n hC dX4_remedy_83 rfl (j := 0) rfl ?_
              refine gd_iload_n hC dX4_remedy_84 rfl (j := 2) rfl ?_
              refine gd_iload hC dX4_remedy_85 (j := 4) rfl ?_
              refine gd_callVR (As := [zz_v (S 91 x.toNat), zz_v (i : Int)]) (rest := []) hC hF (fun hR => c_X4_areLike l hl9 N0 G Y a (zz_mrS (zz_u S 77 26 0) (S 77 7).toNat x.toNat y i) (S 91 x.toNat) (i : Int) (S 91 x.toNat).toNat i (by omega) rfl (by omega) (by omega)) (cwV 2 hts gX4_remedy_X4_areLike rfl rfl rfl (by decide +kernel) ⟨by decide, by decide⟩) rfl (by decide) (ci := 4) rfl rfl rfl rfl (Nat.le_of_ble_eq_true rfl) dX4_remedy_87 ⟨by decide, by decide⟩ (fun E hx => zz_xn hx) (fun q16 q16r => ?_)
              obtain ⟨q16a, q16b⟩ := id q16r
              refine gd_top (y := zz_mli (S 83) (S 82) (S 91 x.toNat).toNat i) (by rw [hof 83 (by omega), hof 82 (by omega)]; rfl) ?_
              have hl01 := zz_mli_01 (S 83) (S 82) (S 91 x.toNat).toNat i
              refine gd_if_eq hC dX4_remedy_90 (tgt := 124) (by decide) ⟨by omega, by omega⟩ (fun c17 => ?_) (fun c17 => ?_)
              · skip
                refine gd_iinc hC dX4_remedy_124 (j := 4) rfl (y := ((i + 1 : Nat) : Int)) (by omega) (by decide) (lv' := [(5, zz_v ((i + 1 : Nat) : Int)), (0, .ref (a 77)), (2, zz_v y), (3, zz_v (S 91 x.toNat)), (4, zz_v (zz_mrn (S 91) (S 85) (S 81) (S 83) (S 84) (S 82) (S 77 7).toNat x.toNat i))]) rfl ?_
                refine gd_goto hC dX4_remedy_127 (tgt := 68) (by decide) ?_
                refine gd_sub [1, 2, 3, 4, 0] (lv' := [(0, .ref (a 77)), (2, zz_v y), (3, zz_v (S 91 x.toNat)), (4, zz_v (zz_mrn (S 91) (S 85) (S 81) (S 83) (S 84) (S 82) (S 77 7).toNat x.toNat i)), (5, zz_v ((i + 1 : Nat) : Int))]) rfl ?_
                have hq : zz_mrb (S 91) (S 85) (S 81) (S 83) (S 84) (S 82) (S 77 7).toNat x.toNat i = 0 := by unfold zz_mrb; omega
                have hz : zz_mrn (S 91) (S 85) (S 81) (S 83) (S 84) (S 82) (S 77 7).toNat x.toNat i = zz_mrn (S 91) (S 85) (S 81) (S 83) (S 84) (S 82) (S 77 7).toNat x.toNat (i + 1) := by rw [zz_mrn, hq]; omega
                have hq2 : zz_mrb ((zz_u S 77 26 0) 91) ((zz_u S 77 26 0) 85) ((zz_u S 77 26 0) 81) ((zz_u S 77 26 0) 83) ((zz_u S 77 26 0) 84) ((zz_u S 77 26 0) 82) (S 77 7).toNat x.toNat i = 0 := hq
                refine gd_lveq (lv' := [(0, .ref (a 77)), (2, zz_v y), (3, zz_v (S 91 x.toNat)), (4, zz_v (zz_mrn (S 91) (S 85) (S 81) (S 83) (S 84) (S 82) (S 77 7).toNat x.toNat (i + 1))), (5, zz_v (((i + 1) : Nat) : Int))]) (by rw [hz]) ?_
                refine gd_eq (S' := zz_mrS (zz_u S 77 26 0) (S 77 7).toNat x.toNat y (i + 1)) (by rw [zz_mrS, hq2]; rfl) ?_
                exact ih68 (i + 1) (by omega) (show (S 77 7).toNat - (i + 1) < (S 77 7).toNat - i by omega)
              · skip
                refine gd_aload_n hC dX4_remedy_93 rfl (j := 0) rfl ?_
                refine gd_iload hC dX4_remedy_94 (j := 4) rfl ?_
                refine gd_callVR (As := [zz_v (i : Int)]) (rest := []) hC hF (fun hR => c_X4_faultOf l hl9 N0 G Y a (zz_mrS (zz_u S 77 26 0) (S 77 7).toNat x.toNat y i) (i : Int) i rfl (by omega) (by rw [hof 77 (by omega)]; exact ima) (by unfold zz_rr; rw [hof 85 (by omega)]; exact ims) (by unfold zz_rr; rw [hof 83 (by omega)]; exact ikd) (by unfold zz_rr; rw [hof 84 (by omega)]; exact itd)) (cwV 1 hts gX4_remedy_X4_faultOf rfl rfl rfl (by decide +kernel) ⟨by decide, by decide⟩) rfl (by decide) (ci := 4) rfl rfl rfl rfl (Nat.le_of_ble_eq_true rfl) dX4_remedy_96 ⟨by decide, by decide⟩ (fun E hx => zz_xn hx) (fun q18 q18r => ?_)
                obtain ⟨q18a, q18b⟩ := id q18r
                refine gd_top (y := zz_mft (S 85) (S 81) (S 83) (S 84) (S 82) (S 77 7).toNat i) (by rw [hof 85 (by omega), hof 81 (by omega), hof 83 (by omega), hof 84 (by omega), hof 82 (by omega), hof 77 (by omega)]; rfl) ?_
                have hf03 := zz_mft_rng (S 85) (S 81) (S 83) (S 84) (S 82) (S 77 7).toNat i
                refine gd_if_le hC dX4_remedy_99 (tgt := 124) (by decide) ⟨by omega, by omega⟩ (fun c19 => ?_) (fun c19 => ?_)
                · skip
                  refine gd_iinc hC dX4_remedy_124 (j := 4) rfl (y := ((i + 1 : Nat) : Int)) (by omega) (by decide) (lv' := [(5, zz_v ((i + 1 : Nat) : Int)), (0, .ref (a 77)), (2, zz_v y), (3, zz_v (S 91 x.toNat)), (4, zz_v (zz_mrn (S 91) (S 85) (S 81) (S 83) (S 84) (S 82) (S 77 7).toNat x.toNat i))]) rfl ?_
                  refine gd_goto hC dX4_remedy_127 (tgt := 68) (by decide) ?_
                  refine gd_sub [1, 2, 3, 4, 0] (lv' := [(0, .ref (a 77)), (2, zz_v y), (3, zz_v (S 91 x.toNat)), (4, zz_v (zz_mrn (S 91) (S 85) (S 81) (S 83) (S 84) (S 82) (S 77 7).toNat x.toNat i)), (5, zz_v ((i + 1 : Nat) : Int))]) rfl ?_
                  have hq : zz_mrb (S 91) (S 85) (S 81) (S 83) (S 84) (S 82) (S 77 7).toNat x.toNat i = 0 := by unfold zz_mrb; omega
                  have hz : zz_mrn (S 91) (S 85) (S 81) (S 83) (S 84) (S 82) (S 77 7).toNat x.toNat i = zz_mrn (S 91) (S 85) (S 81) (S 83) (S 84) (S 82) (S 77 7).toNat x.toNat (i + 1) := by rw [zz_mrn, hq]; omega
                  have hq2 : zz_mrb ((zz_u S 77 26 0) 91) ((zz_u S 77 26 0) 85) ((zz_u S 77 26 0) 81) ((zz_u S 77 26 0) 83) ((zz_u S 77 26 0) 84) ((zz_u S 77 26 0) 82) (S 77 7).toNat x.toNat i = 0 := hq
                  refine gd_lveq (lv' := [(0, .ref (a 77)), (2, zz_v y), (3, zz_v (S 91 x.toNat)), (4, zz_v (zz_mrn (S 91) (S 85) (S 81) (S 83) (S 84) (S 82) (S 77 7).toNat x.toNat (i + 1))), (5, zz_v (((i + 1) : Nat) : Int))]) (by rw [hz]) ?_
                  refine gd_eq (S' := zz_mrS (zz_u S 77 26 0) (S 77 7).toNat x.toNat y (i + 1)) (by rw [zz_mrS, hq2]; rfl) ?_
                  exact ih68 (i + 1) (by omega) (show (S 77 7).toNat - (i + 1) < (S 77 7).toNat - i by omega)
                · skip
                  refine gd_aload_n hC dX4_remedy_102 rfl (j := 0) rfl ?_
                  refine gd_getR hC w4 hK (ci := 4) rfl (by decide) rfl 15 (by decide) (j := 89) rfl f45 rfl dX4_remedy_103 ?_
                  refine gd_iload hC dX4_remedy_106 (j := 4) rfl ?_
                  refine gd_iload_n hC dX4_remedy_108 rfl (j := 1) rfl ?_
                  refine gd_aload_n hC dX4_remedy_109 rfl (j := 0) rfl ?_
                  refine gd_getR hC w4 hK (ci := 4) rfl (by decide) rfl 12 (by decide) (j := 86) rfl f35 rfl dX4_remedy_110 ?_
                  refine gd_iload hC dX4_remedy_113 (j := 4) rfl ?_
                  refine gd_iald hC hK (j := i) rfl (by decide) rfl (by omega) (by decide) dX4_remedy_115 (fun r20 => ?_)
                  obtain ⟨r20a, r20b⟩ := id r20
                  refine gd_top (y := S 86 i) ((congrFun (hof 86 (by omega)) i).trans rfl) ?_
                  have hhm := ihm i (by omega)
                  have hmu := zz_mulb (show 0 ≤ y ∧ y ≤ 100 by omega) hhm
                  refine gd_imul hC dX4_remedy_116 ?_
                  refine gd_bipush hC dX4_remedy_117 rfl ?_
                  refine gd_idiv hC dX4_remedy_119 ⟨by omega, by omega⟩ ⟨by omega, by omega⟩ ?_
                  refine gd_iast hC hK (j := i) rfl (by decide) rfl (by omega) (by decide) ⟨by omega, by omega⟩ dX4_remedy_120 ?_
                  refine gd_iinc hC dX4_remedy_121 (j := 3) rfl (y := zz_mrn (S 91) (S 85) (S 81) (S 83) (S 84) (S 82) (S 77 7).toNat x.toNat i + 1) (by omega) (by decide) (lv' := [(4, zz_v (zz_mrn (S 91) (S 85) (S 81) (S 83) (S 84) (S 82) (S 77 7).toNat x.toNat i + 1)), (0, .ref (a 77)), (2, zz_v y), (3, zz_v (S 91 x.toNat)), (5, zz_v (i : Int))]) rfl ?_
                  refine gd_iinc hC dX4_remedy_124 (j := 4) rfl (y := ((i + 1 : Nat) : Int)) (by omega) (by decide) (lv' := [(5, zz_v ((i + 1 : Nat) : Int)), (4, zz_v (zz_mrn (S 91) (S 85) (S 81) (S 83) (S 84) (S 82) (S 77 7).toNat x.toNat i + 1)), (0, .ref (a 77)), (2, zz_v y), (3, zz_v (S 91 x.toNat))]) rfl ?_
                  refine gd_goto hC dX4_remedy_127 (tgt := 68) (by decide) ?_
                  refine gd_sub [2, 3, 4, 1, 0] (lv' := [(0, .ref (a 77)), (2, zz_v y), (3, zz_v (S 91 x.toNat)), (4, zz_v (zz_mrn (S 91) (S 85) (S 81) (S 83) (S 84) (S 82) (S 77 7).toNat x.toNat i + 1)), (5, zz_v ((i + 1 : Nat) : Int))]) rfl ?_
                  have hq : zz_mrb (S 91) (S 85) (S 81) (S 83) (S 84) (S 82) (S 77 7).toNat x.toNat i = 1 := by unfold zz_mrb; omega
                  have hz : zz_mrn (S 91) (S 85) (S 81) (S 83) (S 84) (S 82) (S 77 7).toNat x.toNat i + 1 = zz_mrn (S 91) (S 85) (S 81) (S 83) (S 84) (S 82) (S 77 7).toNat x.toNat (i + 1) := by rw [zz_mrn, hq]
                  have hq2 : zz_mrb ((zz_u S 77 26 0) 91) ((zz_u S 77 26 0) 85) ((zz_u S 77 26 0) 81) ((zz_u S 77 26 0) 83) ((zz_u S 77 26 0) 84) ((zz_u S 77 26 0) 82) (S 77 7).toNat x.toNat i = 1 := hq
                  refine gd_lveq (lv' := [(0, .ref (a 77)), (2, zz_v y), (3, zz_v (S 91 x.toNat)), (4, zz_v (zz_mrn (S 91) (S 85) (S 81) (S 83) (S 84) (S 82) (S 77 7).toNat x.toNat (i + 1))), (5, zz_v (((i + 1) : Nat) : Int))]) (by rw [hz]) ?_
                  refine gd_eq (S' := zz_mrS (zz_u S 77 26 0) (S 77 7).toNat x.toNat y (i + 1)) (by rw [zz_mrS, hq2]; rfl) ?_
                  exact ih68 (i + 1) (by omega) (show (S 77 7).toNat - (i + 1) < (S 77 7).toNat - i by omega)
        · skip
          refine gd_aload_n hC dX4_remedy_49 rfl (j := 0) rfl ?_
          refine gd_iconst hC dX4_remedy_50 ?_
          refine gd_callVR (As := [zz_v 3]) (rest := []) hC hF (fun hR => c_X4_fails l hl9 N0 G Y a (zz_u (S) (77) (26) (0)) 3 ⟨by decide, by decide⟩) (cwV 1 hts gX4_remedy_X4_fails rfl rfl rfl (by decide +kernel) ⟨by decide, by decide⟩) rfl (by decide) (ci := 4) rfl rfl rfl rfl (Nat.le_of_ble_eq_true rfl) dX4_remedy_51 ⟨by decide, by decide⟩ (fun E hx => zz_xn hx) (fun q21 q21r => ?_)
          obtain ⟨q21a, q21b⟩ := id q21r
          exact gd_ireturn hC hr rfl hlk dX4_remedy_54 (by decide) ⟨_, ⟨by decide, by decide⟩, rfl, (z2 (by omega)).2.symm, (z2 (by omega)).1.symm, trivial⟩
    · skip
      refine gd_aload_n hC dX4_remedy_24 rfl (j := 0) rfl ?_
      refine gd_iconst hC dX4_remedy_25 ?_
      refine gd_callVR (As := [zz_v 2]) (rest := []) hC hF (fun hR => c_X4_fails l hl9 N0 G Y a (zz_u (S) (77) (26) (0)) 2 ⟨by decide, by decide⟩) (cwV 1 hts gX4_remedy_X4_fails rfl rfl rfl (by decide +kernel) ⟨by decide, by decide⟩) rfl (by decide) (ci := 4) rfl rfl rfl rfl (Nat.le_of_ble_eq_true rfl) dX4_remedy_26 ⟨by decide, by decide⟩ (fun E hx => zz_xn hx) (fun q22 q22r => ?_)
      obtain ⟨q22a, q22b⟩ := id q22r
      exact gd_ireturn hC hr rfl hlk dX4_remedy_29 (by decide) ⟨_, ⟨by decide, by decide⟩, rfl, (z1 (by omega)).2.symm, (z1 (by omega)).1.symm, trivial⟩
  · skip
    refine gd_eq (S' := zz_u (S) (77) (26) (1)) (by rw [if_pos (by omega)]) ?_
    refine gd_iconst hC dX4_remedy_12 ?_
    exact gd_ireturn hC hr rfl hlk dX4_remedy_13 (by decide) ⟨_, ⟨by decide, by decide⟩, rfl, (z0 (by omega)).2.symm, (z0 (by omega)).1.symm, trivial⟩
