abbrev rm_X3_letter : Room := { frames := 6, cells := 1, slots := 6, locals := 82 }
set_option maxHeartbeats 4000000 in
set_option maxRecDepth 100000 in
theorem c_X3_letter (l : Launch) (hl9 : l.stackTraces = false) (N0 : Nat) (G : zz_G) (Y : zz_Y) (a : Nat → Nat) (S : zz_S) (x : Int) (hx : 0 ≤ x ∧ x < 65536) (hI : zz_IC S) : CtR l yX3_letter wsX3_letter rm_X3_letter 1 [.ref (a 0), zz_v x] N0 G Y a S (S 0 1 + 1) (zz_u (zz_u (S) (1) ((S 0 1).toNat) (x)) (0) (1) (S 0 1 + 1)) (97 ≤ x ∧ x ≤ 122 ∧ S 0 1 < 7) (False) (x < 97 ∨ 122 < x) ((97 ≤ x ∧ x ≤ 122) ∧ 7 ≤ S 0 1) := by
  refine Ct_.of (cc := cX3_letter) (maxL := 2) (ret := (some .int)) (by decide) rfl (Nat.le_of_ble_eq_true rfl) ?_
  intro p e s m args below meth c hC hts hr hlk hex hF
  have hK := hF.2.1
  have w3 : ∀ w ∈ u_ws RX3 TX3 11, w.before args s = true := fun w h => hts w (List.mem_cons_of_mem _ (List.mem_append_left _ (List.mem_append_left _ (List.mem_append_right _ h))))
  have f9 : (Cond.fieldLink RX3 9 "Grievancehall" "typed" "[C").before args s = true := hts _ (by decide +kernel)
  have f48 : (Cond.fieldLink RX3 48 "Grievancehall" "typedCount" "I").before args s = true := hts _ (by decide +kernel)
  have t2 : ∀ w ∈ (vx_atS RX3 45 "java/lang/IllegalArgumentException" ["java/lang/RuntimeException", "java/lang/Exception"]).filter goodWord, w.before args s = true := fun w h => hts w (List.mem_cons_of_mem _ (List.mem_append_left _ (List.mem_append_right _ h)))
  have t3 : ∀ w ∈ (vx_atS RX3 56 "java/lang/IllegalStateException" ["java/lang/RuntimeException", "java/lang/Exception"]).filter goodWord, w.before args s = true := fun w h => hts w (List.mem_cons_of_mem _ (List.mem_append_right _ h))
  refine gd_lveq (lv' := [(0, .ref (a 0)), (1, zz_v x)]) rfl ?_
  obtain ⟨itc, ioc, iac, icc, itd, idc, ilc, iab, idv, iow, ikd, idy, ims, ihm, ict, iwv, irm, ipl, ian, ist, idl, ipe, ifi, ias, ihe, ifn, iod, ity⟩ := id hI
  refine gd_iload_n hC dX3_letter_0 rfl (j := 1) rfl ?_
  refine gd_bipush hC dX3_letter_1 rfl ?_
  refine gd_icmp_lt hC dX3_letter_3 (tgt := 12) (by decide) ⟨by omega, by omega⟩ ⟨by decide, by decide⟩ (fun c1 => ?_) (fun c1 => ?_)
  · skip
    exact gd_throw2 (text := "not a letter from a to z") hC hl9 hF (hts _ (by decide +kernel)) (hts _ (by decide +kernel)) (by decide +kernel) t2 dX3_letter_12 dX3_letter_15 dX3_letter_16 dX3_letter_18 dX3_letter_21 hex (by decide) (by decide) (by decide) (by decide) hlk rfl (by omega) (by decide)
  · skip
    refine gd_iload_n hC dX3_letter_6 rfl (j := 1) rfl ?_
    refine gd_bipush hC dX3_letter_7 rfl ?_
    refine gd_icmp_le hC dX3_letter_9 (tgt := 22) (by decide) ⟨by omega, by omega⟩ ⟨by decide, by decide⟩ (fun c2 => ?_) (fun c2 => ?_)
    · skip
      refine gd_aload_n hC dX3_letter_22 rfl (j := 0) rfl ?_
      refine gd_getI hC w3 hK (ci := 3) rfl (by decide) rfl 1 (by decide) rfl f48 rfl dX3_letter_23 (fun r3 => ?_)
      obtain ⟨r3a, r3b⟩ := id r3
      refine gd_bipush hC dX3_letter_26 rfl ?_
      refine gd_icmp_lt hC dX3_letter_28 (tgt := 41) (by decide) ⟨by omega, by omega⟩ ⟨by decide, by decide⟩ (fun c4 => ?_) (fun c4 => ?_)
      · skip
        refine gd_aload_n hC dX3_letter_41 rfl (j := 0) rfl ?_
        refine gd_getR hC w3 hK (ci := 3) rfl (by decide) rfl 0 (by decide) (j := 1) rfl f9 rfl dX3_letter_42 ?_
        refine gd_aload_n hC dX3_letter_45 rfl (j := 0) rfl ?_
        refine gd_getI hC w3 hK (ci := 3) rfl (by decide) rfl 1 (by decide) rfl f48 rfl dX3_letter_46 (fun r5 => ?_)
        obtain ⟨r5a, r5b⟩ := id r5
        refine gd_iload_n hC dX3_letter_49 rfl (j := 1) rfl ?_
        refine gd_cast hC hK (j := (S 0 1).toNat) rfl (by decide) (by omega) (by omega) (by decide) ⟨by omega, by omega⟩ (zz_nc (by omega)) dX3_letter_50 ?_
        refine gd_aload_n hC dX3_letter_51 rfl (j := 0) rfl ?_
        refine gd_dup hC dX3_letter_52 rfl ?_
        refine gd_getI hC w3 hK (ci := 3) rfl (by decide) rfl 1 (by decide) rfl f48 rfl dX3_letter_53 (fun r6 => ?_)
        obtain ⟨r6a, r6b⟩ := id r6
        refine gd_top (y := S 0 1) (zz_u_ne _ _ (by omega)) ?_
        rw [(zz_u_ne _ _ (by omega) : (zz_u (S) (1) ((S 0 1).toNat) (x)) (0) (1) = S 0 1)] at r6a r6b
        refine gd_iconst hC dX3_letter_56 ?_
        refine gd_iadd hC dX3_letter_57 ?_
        refine gd_put hC w3 tyX3 tyX3_ok nmX3 hK (ci := 3) rfl (by decide) rfl 1 (by decide) rfl f48 rfl rfl (ty := .int) (by decide +kernel) rfl rfl ⟨by omega, by omega⟩ dX3_letter_58 ?_
        refine gd_aload_n hC dX3_letter_61 rfl (j := 0) rfl ?_
        refine gd_getI hC w3 hK (ci := 3) rfl (by decide) rfl 1 (by decide) rfl f48 rfl dX3_letter_62 (fun r7 => ?_)
        obtain ⟨r7a, r7b⟩ := id r7
        refine gd_top (y := (S 0 1) + 1) (zz_u_same _ _ _ _) ?_
        rw [(zz_u_same _ _ _ _ : (zz_u (zz_u (S) (1) ((S 0 1).toNat) (x)) (0) (1) ((S 0 1) + 1)) (0) (1) = (S 0 1) + 1)] at r7a r7b
        exact gd_ireturn hC hr rfl hlk dX3_letter_65 (by decide) ⟨_, ⟨by omega, by omega⟩, rfl, (by first | rfl | ((repeat' split) <;> first | rfl | omega)), (by first | rfl | omega), (by omega)⟩
      · skip
        exact gd_throw3 (text := "the word is full") hC hl9 hF (hts _ (by decide +kernel)) (hts _ (by decide +kernel)) (by decide +kernel) t3 dX3_letter_31 dX3_letter_34 dX3_letter_35 dX3_letter_37 dX3_letter_40 hex (by decide) (by decide) (by decide) (by decide) hlk rfl (by omega) (by decide)
    · skip
      exact gd_throw2 (text := "not a letter from a to z") hC hl9 hF (hts _ (by decide +kernel)) (hts _ (by decide +kernel)) (by decide +kernel) t2 dX3_letter_12 dX3_letter_15 dX3_letter_16 dX3_letter_18 dX3_letter_21 hex (by decide) (by decide) (by decide) (by decide) hlk rfl (by omega) (by decide)

abbrev rm_X3_office : Room := { frames := 7, cells := 2, slots := 12, locals := 103 }
set_option maxHeartbeats 4000000 in
set_option maxRecDepth 100000 in
theorem c_X3_office (l : Launch) (hl9 : l.stackTraces = false) (N0 : Nat) (G : zz_G) (Y : zz_Y) (a : Nat → Nat) (S : zz_S) (x : Int) (hx : zz_R x) (hI : zz_IC S) : CtR l yX3_office wsX3_office rm_X3_office 2 [.ref (a 0), zz_v x] N0 G Y a S (S 0 3) (zz_u (zz_u (S) (2) ((S 0 3).toNat) (x)) (0) (3) (S 0 3 + 1)) ((x = -1 ∨ (0 ≤ x ∧ x < S 0 3)) ∧ S 0 3 < 10) (¬ x = -1 ∧ (x < 0 ∨ S 0 3 ≤ x)) (False) ((x = -1 ∨ (0 ≤ x ∧ x < S 0 3)) ∧ 10 ≤ S 0 3) := by
  refine Ct_.of (cc := cX3_office) (maxL := 3) (ret := (some .int)) (by decide) rfl (Nat.le_of_ble_eq_true rfl) ?_
  intro p e s m args below meth c hC hts hr hlk hex hF
  have hK := hF.2.1
  have w3 : ∀ w ∈ u_ws RX3 TX3 11, w.before args s = true := fun w h => hts w (List.mem_cons_of_mem _ (List.mem_append_left _ (List.mem_append_left _ (List.mem_append_right _ h))))
  have f13 : (Cond.fieldLink RX3 13 "Grievancehall" "aboveOffice" "[I").before args s = true := hts _ (by decide +kernel)
  have f57 : (Cond.fieldLink RX3 57 "Grievancehall" "officeCount" "I").before args s = true := hts _ (by decide +kernel)
  have t3 : ∀ w ∈ (vx_atS RX3 56 "java/lang/IllegalStateException" ["java/lang/RuntimeException", "java/lang/Exception"]).filter goodWord, w.before args s = true := fun w h => hts w (List.mem_cons_of_mem _ (List.mem_append_left _ (List.mem_append_right _ h)))
  refine gd_lveq (lv' := [(0, .ref (a 0)), (1, zz_v x)]) rfl ?_
  obtain ⟨itc, ioc, iac, icc, itd, idc, ilc, iab, idv, iow, ikd, idy, ims, ihm, ict, iwv, irm, ipl, ian, ist, idl, ipe, ifi, ias, ihe, ifn, iod, ity⟩ := id hI
  obtain ⟨hx1, hx2⟩ := id hx
  refine gd_iload_n hC dX3_office_0 rfl (j := 1) rfl ?_
  refine gd_iconst hC dX3_office_1 ?_
  refine gd_icmp_eq hC dX3_office_2 (tgt := 13) (by decide) ⟨by omega, by omega⟩ ⟨by decide, by decide⟩ (fun c1 => ?_) (fun c1 => ?_)
  · skip
    refine gd_aload_n hC dX3_office_13 rfl (j := 0) rfl ?_
    refine gd_getI hC w3 hK (ci := 3) rfl (by decide) rfl 3 (by decide) rfl f57 rfl dX3_office_14 (fun r2 => ?_)
    obtain ⟨r2a, r2b⟩ := id r2
    refine gd_bipush hC dX3_office_17 rfl ?_
    refine gd_icmp_lt hC dX3_office_19 (tgt := 32) (by decide) ⟨by omega, by omega⟩ ⟨by decide, by decide⟩ (fun c3 => ?_) (fun c3 => ?_)
    · skip
      refine gd_aload_n hC dX3_office_32 rfl (j := 0) rfl ?_
      refine gd_getI hC w3 hK (ci := 3) rfl (by decide) rfl 3 (by decide) rfl f57 rfl dX3_office_33 (fun r4 => ?_)
      obtain ⟨r4a, r4b⟩ := id r4
      refine gd_istore_n hC dX3_office_36 rfl (by decide) (lv' := [(2, zz_v (S 0 3)), (0, .ref (a 0)), (1, zz_v x)]) rfl ?_
      refine gd_aload_n hC dX3_office_37 rfl (j := 1) rfl ?_
      refine gd_getR hC w3 hK (ci := 3) rfl (by decide) rfl 2 (by decide) (j := 2) rfl f13 rfl dX3_office_38 ?_
      refine gd_iload_n hC dX3_office_41 rfl (j := 0) rfl ?_
      refine gd_iload_n hC dX3_office_42 rfl (j := 2) rfl ?_
      refine gd_iast hC hK (j := (S 0 3).toNat) rfl (by decide) (by omega) (by omega) (by decide) ⟨by omega, by omega⟩ dX3_office_43 ?_
      refine gd_aload_n hC dX3_office_44 rfl (j := 1) rfl ?_
      refine gd_dup hC dX3_office_45 rfl ?_
      refine gd_getI hC w3 hK (ci := 3) rfl (by decide) rfl 3 (by decide) rfl f57 rfl dX3_office_46 (fun r5 => ?_)
      obtain ⟨r5a, r5b⟩ := id r5
      refine gd_top (y := S 0 3) (zz_u_ne _ _ (by omega)) ?_
      rw [(zz_u_ne _ _ (by omega) : (zz_u (S) (2) ((S 0 3).toNat) (x)) (0) (3) = S 0 3)] at r5a r5b
      refine gd_iconst hC dX3_office_49 ?_
      refine gd_iadd hC dX3_office_50 ?_
      refine gd_put hC w3 tyX3 tyX3_ok nmX3 hK (ci := 3) rfl (by decide) rfl 3 (by decide) rfl f57 rfl rfl (ty := .int) (by decide +kernel) rfl rfl ⟨by omega, by omega⟩ dX3_office_51 ?_
      refine gd_iload_n hC dX3_office_54 rfl (j := 0) rfl ?_
      exact gd_ireturn hC hr rfl hlk dX3_office_55 (by decide) ⟨_, ⟨by omega, by omega⟩, rfl, (by first | rfl | ((repeat' split) <;> first | rfl | omega)), (by first | rfl | omega), (by omega)⟩
    · skip
      exact gd_throw3 (text := "no more offices") hC hl9 hF (hts _ (by decide +kernel)) (hts _ (by decide +kernel)) (by decide +kernel) t3 dX3_office_22 dX3_office_25 dX3_office_26 dX3_office_28 dX3_office_31 hex (by decide) (by decide) (by decide) (by decide) hlk rfl (by omega) (by decide)
  · skip
    refine gd_iload_n hC dX3_office_5 rfl (j := 1) rfl ?_
    refine gd_aload_n hC dX3_office_6 rfl (j := 0) rfl ?_
    refine gd_getI hC w3 hK (ci := 3) rfl (by decide) rfl 3 (by decide) rfl f57 rfl dX3_office_7 (fun r6 => ?_)
    obtain ⟨r6a, r6b⟩ := id r6
    refine gd_callSN (As := [zz_v x, zz_v (S 0 3)]) (rest := []) hC hF (fun hR => c_X3_needNumber l hl9 N0 G Y a (S) x (S 0 3) ⟨by omega, by omega⟩ ⟨by omega, by omega⟩) (va_cwS 2 hts gX3_office_X3_needNumber rfl rfl rfl (by decide +kernel) ⟨by decide, by decide⟩) rfl rfl (Nat.le_of_ble_eq_true rfl) dX3_office_10 ⟨by decide, by decide⟩ (fun E hx => gx_out (Y := Y) (fun x h => (hex x h).elim) hlk ⟨rfl, zz_xm (fun z => by omega) (fun z => z.elim) (fun z => z.elim) hx⟩ (by decide)) (fun q7 => ?_)
    refine gd_aload_n hC dX3_office_13 rfl (j := 0) rfl ?_
    refine gd_getI hC w3 hK (ci := 3) rfl (by decide) rfl 3 (by decide) rfl f57 rfl dX3_office_14 (fun r8 => ?_)
    obtain ⟨r8a, r8b⟩ := id r8
    refine gd_bipush hC dX3_office_17 rfl ?_
    refine gd_icmp_lt hC dX3_office_19 (tgt := 32) (by decide) ⟨by omega, by omega⟩ ⟨by decide, by decide⟩ (fun c9 => ?_) (fun c9 => ?_)
    · skip
      refine gd_aload_n hC dX3_office_32 rfl (j := 0) rfl ?_
      refine gd_getI hC w3 hK (ci := 3) rfl (by decide) rfl 3 (by decide) rfl f57 rfl dX3_office_33 (fun r10 => ?_)
      obtain ⟨r10a, r10b⟩ := id r10
      refine gd_istore_n hC dX3_office_36 rfl (by decide) (lv' := [(2, zz_v (S 0 3)), (0, .ref (a 0)), (1, zz_v x)]) rfl ?_
      refine gd_aload_n hC dX3_office_37 rfl (j := 1) rfl ?_
      refine gd_getR hC w3 hK (ci := 3) rfl (by decide) rfl 2 (by decide) (j := 2) rfl f13 rfl dX3_office_38 ?_
      refine gd_iload_n hC dX3_office_41 rfl (j := 0) rfl ?_
      refine gd_iload_n hC dX3_office_42 rfl (j := 2) rfl ?_
      refine gd_iast hC hK (j := (S 0 3).toNat) rfl (by decide) (by omega) (by omega) (by decide) ⟨by omega, by omega⟩ dX3_office_43 ?_
      refine gd_aload_n hC dX3_office_44 rfl (j := 1) rfl ?_
      refine gd_dup hC dX3_office_45 rfl ?_
      refine gd_getI hC w3 hK (ci := 3) rfl (by decide) rfl 3 (by decide) rfl f57 rfl dX3_office_46 (fun r11 => ?_)
      obtain ⟨r11a, r11b⟩ := id r11
      refine gd_top (y := S 0 3) (zz_u_ne _ _ (by omega)) ?_
      rw [(zz_u_ne _ _ (by omega) : (zz_u (S) (2) ((S 0 3).toNat) (x)) (0) (3) = S 0 3)] at r11a r11b
      refine gd_iconst hC dX3_office_49 ?_
      refine gd_iadd hC dX3_office_50 ?_
      refine gd_put hC w3 tyX3 tyX3_ok nmX3 hK (ci := 3) rfl (by decide) rfl 3 (by decide) rfl f57 rfl rfl (ty := .int) (by decide +kernel) rfl rfl ⟨by omega, by omega⟩ dX3_office_51 ?_
      refine gd_iload_n hC dX3_office_54 rfl (j := 0) rfl ?_
      exact gd_ireturn hC hr rfl hlk dX3_office_55 (by decide) ⟨_, ⟨by omega, by omega⟩, rfl, (by first | rfl | ((repeat' split) <;> first | rfl | omega)), (by first | rfl | omega), (by omega)⟩
    · skip
      exact gd_throw3 (text := "no more offices") hC hl9 hF (hts _ (by decide +kernel)) (hts _ (by decide +kernel)) (by decide +kernel) t3 dX3_office_22 dX3_office_25 dX3_office_26 dX3_office_28 dX3_office_31 hex (by decide) (by decide) (by decide) (by decide) hlk rfl (by omega) (by decide)

abbrev rm_X3_delegate : Room := { frames := 7, cells := 3, slots := 18, locals := 103 }
set_option maxHeartbeats 4000000 in
set_option maxRecDepth 100000 in
theorem c_X3_delegate (l : Launch) (hl9 : l.stackTraces = false) (N0 : Nat) (G : zz_G) (Y : zz_Y) (a : Nat → Nat) (S : zz_S) (x y : Int) (hx : zz_R x) (hy : zz_R y) (hd : S 3 3 < 512) (hI : zz_IC S) : CtR l yX3_delegate wsX3_delegate rm_X3_delegate 3 [.ref (a 0), zz_v x, zz_v y] N0 G Y a S (zz_vo (S 4) (S 5) (S 6) x (S 0 10) (-1) (S 3 3).toNat) (zz_u (zz_u (zz_u (zz_u (S) (4) ((S 3 3).toNat) (x)) (5) ((S 3 3).toNat) ((S 0 10))) (6) ((S 3 3).toNat) (y)) (3) (3) (S 3 3 + 1)) ((0 ≤ x ∧ x < S 0 3) ∧ (y = -1 ∨ (0 ≤ y ∧ y < S 0 3)) ∧ ¬ x = y) (¬ (0 ≤ x ∧ x < S 0 3) ∨ ¬ (y = -1 ∨ (0 ≤ y ∧ y < S 0 3))) ((0 ≤ x ∧ x < S 0 3) ∧ (y = -1 ∨ (0 ≤ y ∧ y < S 0 3)) ∧ x = y) (False) := by
  refine Ct_.of (cc := cX3_delegate) (maxL := 4) (ret := (some .int)) (by decide) rfl (Nat.le_of_ble_eq_true rfl) ?_
  intro p e s m args below meth c hC hts hr hlk hex hF
  have hK := hF.2.1
  have w3 : ∀ w ∈ u_ws RX3 TX3 11, w.before args s = true := fun w h => hts w (List.mem_cons_of_mem _ (List.mem_append_left _ (List.mem_append_left _ (List.mem_append_left _ (List.mem_append_right _ h)))))
  have f20 : (Cond.fieldLink RX3 20 "Grievancehall" "delegations" "LGrievancehall$Changes;").before args s = true := hts _ (by decide +kernel)
  have f57 : (Cond.fieldLink RX3 57 "Grievancehall" "officeCount" "I").before args s = true := hts _ (by decide +kernel)
  have f68 : (Cond.fieldLink RX3 68 "Grievancehall" "today" "I").before args s = true := hts _ (by decide +kernel)
  have t2 : ∀ w ∈ (vx_atS RX3 45 "java/lang/IllegalArgumentException" ["java/lang/RuntimeException", "java/lang/Exception"]).filter goodWord, w.before args s = true := fun w h => hts w (List.mem_cons_of_mem _ (List.mem_append_left _ (List.mem_append_right _ h)))
  refine gd_lveq (lv' := [(0, .ref (a 0)), (1, zz_v x), (2, zz_v y)]) rfl ?_
  obtain ⟨itc, ioc, iac, icc, itd, idc, ilc, iab, idv, iow, ikd, idy, ims, ihm, ict, iwv, irm, ipl, ian, ist, idl, ipe, ifi, ias, ihe, ifn, iod, ity⟩ := id hI
  obtain ⟨hx1, hx2⟩ := id hx
  obtain ⟨hy1, hy2⟩ := id hy
  refine gd_iload_n hC dX3_delegate_0 rfl (j := 1) rfl ?_
  refine gd_aload_n hC dX3_delegate_1 rfl (j := 0) rfl ?_
  refine gd_getI hC w3 hK (ci := 3) rfl (by decide) rfl 3 (by decide) rfl f57 rfl dX3_delegate_2 (fun r1 => ?_)
  obtain ⟨r1a, r1b⟩ := id r1
  refine gd_callSN (As := [zz_v x, zz_v (S 0 3)]) (rest := []) hC hF (fun hR => c_X3_needNumber l hl9 N0 G Y a (S) x (S 0 3) ⟨by omega, by omega⟩ ⟨by omega, by omega⟩) (va_cwS 2 hts gX3_delegate_X3_needNumber rfl rfl rfl (by decide +kernel) ⟨by decide, by decide⟩) rfl rfl (Nat.le_of_ble_eq_true rfl) dX3_delegate_5 ⟨by decide, by decide⟩ (fun E hx => gx_out (Y := Y) (fun x h => (hex x h).elim) hlk ⟨rfl, zz_xm (fun z => by omega) (fun z => z.elim) (fun z => z.elim) hx⟩ (by decide)) (fun q2 => ?_)
  refine gd_iload_n hC dX3_delegate_8 rfl (j := 2) rfl ?_
  refine gd_iconst hC dX3_delegate_9 ?_
  refine gd_icmp_eq hC dX3_delegate_10 (tgt := 21) (by decide) ⟨by omega, by omega⟩ ⟨by decide, by decide⟩ (fun c3 => ?_) (fun c3 => ?_)
  · skip
    refine gd_iload_n hC dX3_delegate_21 rfl (j := 1) rfl ?_
    refine gd_iload_n hC dX3_delegate_22 rfl (j := 2) rfl ?_
    refine gd_icmp_ne hC dX3_delegate_23 (tgt := 36) (by decide) ⟨by omega, by omega⟩ ⟨by omega, by omega⟩ (fun c4 => ?_) (fun c4 => ?_)
    · skip
      refine gd_aload_n hC dX3_delegate_36 rfl (j := 0) rfl ?_
      refine gd_getR hC w3 hK (ci := 3) rfl (by decide) rfl 4 (by decide) (j := 3) rfl f20 rfl dX3_delegate_37 ?_
      refine gd_iload_n hC dX3_delegate_40 rfl (j := 1) rfl ?_
      refine gd_aload_n hC dX3_delegate_41 rfl (j := 0) rfl ?_
      refine gd_getI hC w3 hK (ci := 3) rfl (by decide) rfl 10 (by decide) rfl f68 rfl dX3_delegate_42 (fun r5 => ?_)
      obtain ⟨r5a, r5b⟩ := id r5
      refine gd_iconst hC dX3_delegate_45 ?_
      refine gd_callVR (As := [zz_v x, zz_v (S 0 10), zz_v (-1)]) (rest := []) hC hF (fun hR => c_X1_valueOn_3 l hl9 N0 G Y a (S) x (S 0 10) (-1) ⟨by omega, by omega⟩ ⟨by omega, by omega⟩ ⟨by decide, by decide⟩ (by omega)) (cwV 3 hts gX3_delegate_X1_valueOn rfl rfl rfl (by decide +kernel) ⟨by decide, by decide⟩) rfl (by decide) (ci := 1) rfl rfl rfl rfl (Nat.le_of_ble_eq_true rfl) dX3_delegate_46 ⟨by decide, by decide⟩ (fun E hx => zz_xn hx) (fun q6 q6r => ?_)
      obtain ⟨q6a, q6b⟩ := id q6r
      refine gd_istore_n hC dX3_delegate_49 rfl (by decide) (lv' := [(3, zz_v (zz_vo (S 4) (S 5) (S 6) x (S 0 10) (-1) (S 3 3).toNat)), (0, .ref (a 0)), (1, zz_v x), (2, zz_v y)]) rfl ?_
      refine gd_aload_n hC dX3_delegate_50 rfl (j := 1) rfl ?_
      refine gd_getR hC w3 hK (ci := 3) rfl (by decide) rfl 4 (by decide) (j := 3) rfl f20 rfl dX3_delegate_51 ?_
      refine gd_iload_n hC dX3_delegate_54 rfl (j := 2) rfl ?_
      refine gd_aload_n hC dX3_delegate_55 rfl (j := 1) rfl ?_
      refine gd_getI hC w3 hK (ci := 3) rfl (by decide) rfl 10 (by decide) rfl f68 rfl dX3_delegate_56 (fun r7 => ?_)
      obtain ⟨r7a, r7b⟩ := id r7
      refine gd_iload_n hC dX3_delegate_59 rfl (j := 3) rfl ?_
      refine gd_callVN (As := [zz_v x, zz_v (S 0 10), zz_v y]) (rest := []) hC hF (fun hR => c_X1_tell_3 l hl9 N0 G Y a (S) x (S 0 10) y ⟨by omega, by omega⟩ ⟨by omega, by omega⟩ ⟨by omega, by omega⟩ (by omega)) (cwV 3 hts gX3_delegate_X1_tell rfl rfl rfl (by decide +kernel) ⟨by decide, by decide⟩) rfl (by decide) (ci := 1) rfl rfl rfl rfl (Nat.le_of_ble_eq_true rfl) dX3_delegate_60 ⟨by decide, by decide⟩ (fun E hx => zz_xn hx) (fun q8 => ?_)
      refine gd_iload_n hC dX3_delegate_63 rfl (j := 0) rfl ?_
      exact gd_ireturn hC hr rfl hlk dX3_delegate_64 (by decide) ⟨_, ⟨by omega, by omega⟩, rfl, (by first | rfl | ((repeat' split) <;> first | rfl | omega)), (by first | rfl | omega), (by omega)⟩
    · skip
      exact gd_throw2 (text := "an office cannot be let act for itself") hC hl9 hF (hts _ (by decide +kernel)) (hts _ (by decide +kernel)) (by decide +kernel) t2 dX3_delegate_26 dX3_delegate_29 dX3_delegate_30 dX3_delegate_32 dX3_delegate_35 hex (by decide) (by decide) (by decide) (by decide) hlk rfl (by omega) (by decide)
  · skip
    refine gd_iload_n hC dX3_delegate_13 rfl (j := 2) rfl ?_
    refine gd_aload_n hC dX3_delegate_14 rfl (j := 0) rfl ?_
    refine gd_getI hC w3 hK (ci := 3) rfl (by decide) rfl 3 (by decide) rfl f57 rfl dX3_delegate_15 (fun r9 => ?_)
    obtain ⟨r9a, r9b⟩ := id r9
    refine gd_callSN (As := [zz_v y, zz_v (S 0 3)]) (rest := []) hC hF (fun hR => c_X3_needNumber l hl9 N0 G Y a (S) y (S 0 3) ⟨by omega, by omega⟩ ⟨by omega, by omega⟩) (va_cwS 2 hts gX3_delegate_X3_needNumber rfl rfl rfl (by decide +kernel) ⟨by decide, by decide⟩) rfl rfl (Nat.le_of_ble_eq_true rfl) dX3_delegate_18 ⟨by decide, by decide⟩ (fun E hx => gx_out (Y := Y) (fun x h => (hex x h).elim) hlk ⟨rfl, zz_xm (fun z => by omega) (fun z => z.elim) (fun z => z.elim) hx⟩ (by decide)) (fun q10 => ?_)
    refine gd_iload_n hC dX3_delegate_21 rfl (j := 1) rfl ?_
    refine gd_iload_n hC dX3_delegate_22 rfl (j := 2) rfl ?_
    refine gd_icmp_ne hC dX3_delegate_23 (tgt := 36) (by decide) ⟨by omega, by omega⟩ ⟨by omega, by omega⟩ (fun c11 => ?_) (fun c11 => ?_)
    · skip
      refine gd_aload_n hC dX3_delegate_36 rfl (j := 0) rfl ?_
      refine gd_getR hC w3 hK (ci := 3) rfl (by decide) rfl 4 (by decide) (j := 3) rfl f20 rfl dX3_delegate_37 ?_
      refine gd_iload_n hC dX3_delegate_40 rfl (j := 1) rfl ?_
      refine gd_aload_n hC dX3_delegate_41 rfl (j := 0) rfl ?_
      refine gd_getI hC w3 hK (ci := 3) rfl (by decide) rfl 10 (by decide) rfl f68 rfl dX3_delegate_42 (fun r12 => ?_)
      obtain ⟨r12a, r12b⟩ := id r12
      refine gd_iconst hC dX3_delegate_45 ?_
      refine gd_callVR (As := [zz_v x, zz_v (S 0 10), zz_v (-1)]) (rest := []) hC hF (fun hR => c_X1_valueOn_3 l hl9 N0 G Y a (S) x (S 0 10) (-1) ⟨by omega, by omega⟩ ⟨by omega, by omega⟩ ⟨by decide, by decide⟩ (by omega)) (cwV 3 hts gX3_delegate_X1_valueOn rfl rfl rfl (by decide +kernel) ⟨by decide, by decide⟩) rfl (by decide) (ci := 1) rfl rfl rfl rfl (Nat.le_of_ble_eq_true rfl) dX3_delegate_46 ⟨by decide, by decide⟩ (fun E hx => zz_xn hx) (fun q13 q13r => ?_)
      obtain ⟨q13a, q13b⟩ := id q13r
      refine gd_istore_n hC dX3_delegate_49 rfl (by decide) (lv' := [(3, zz_v (zz_vo (S 4) (S 5) (S 6) x (S 0 10) (-1) (S 3 3).toNat)), (0, .ref (a 0)), (1, zz_v x), (2, zz_v y)]) rfl ?_
      refine gd_aload_n hC dX3_delegate_50 rfl (j := 1) rfl ?_
      refine gd_getR hC w3 hK (ci := 3) rfl (by decide) rfl 4 (by decide) (j := 3) rfl f20 rfl dX3_delegate_51 ?_
      refine gd_iload_n hC dX3_delegate_54 rfl (j := 2) rfl ?_
      refine gd_aload_n hC dX3_delegate_55 rfl (j := 1) rfl ?_
      refine gd_getI hC w3 hK (ci := 3) rfl (by decide) rfl 10 (by decide) rfl f68 rfl dX3_delegate_56 (fun r14 => ?_)
      obtain ⟨r14a, r14b⟩ := id r14
      refine gd_iload_n hC dX3_delegate_59 rfl (j := 3) rfl ?_
      refine gd_callVN (As := [zz_v x, zz_v (S 0 10), zz_v y]) (rest := []) hC hF (fun hR => c_X1_tell_3 l hl9 N0 G Y a (S) x (S 0 10) y ⟨by omega, by omega⟩ ⟨by omega, by omega⟩ ⟨by omega, by omega⟩ (by omega)) (cwV 3 hts gX3_delegate_X1_tell rfl rfl rfl (by decide +kernel) ⟨by decide, by decide⟩) rfl (by decide) (ci := 1) rfl rfl rfl rfl (Nat.le_of_ble_eq_true rfl) dX3_delegate_60 ⟨by decide, by decide⟩ (fun E hx => zz_xn hx) (fun q15 => ?_)
      refine gd_iload_n hC dX3_delegate_63 rfl (j := 0) rfl ?_
      exact gd_ireturn hC hr rfl hlk dX3_delegate_64 (by decide) ⟨_, ⟨by omega, by omega⟩, rfl, (by first | rfl | ((repeat' split) <;> first | rfl | omega)), (by first | rfl | omega), (by omega)⟩
    · skip
      exact gd_throw2 (text := "an office cannot be let act for itself") hC hl9 hF (hts _ (by decide +kernel)) (hts _ (by decide +kernel)) (by decide +kernel) t2 dX3_delegate_26 dX3_delegate_29 dX3_delegate_30 dX3_delegate_32 dX3_delegate_35 hex (by decide) (by decide) (by decide) (by decide) hlk rfl (by omega) (by decide)

abbrev rm_X3_whose : Room := { frames := 7, cells := 2, slots := 12, locals := 104 }
set_option maxHeartbeats 4000000 in
set_option maxRecDepth 100000 in
theorem c_X3_whose (l : Launch) (hl9 : l.stackTraces = false) (N0 : Nat) (G : zz_G) (Y : zz_Y) (a : Nat → Nat) (S : zz_S) (x y : Int) (hx : zz_R x) (hy : zz_R y) (hI : zz_IC S) : CtR l yX3_whose wsX3_whose rm_X3_whose 2 [.ref (a 0), zz_v x, zz_v y] N0 G Y a S (zz_oo (S 4) (S 5) (S 6) (S 3 3).toNat y 10 x) (S) ((0 ≤ x ∧ x < S 0 3) ∧ 0 ≤ y ∧ y ≤ S 0 10) (¬ (0 ≤ x ∧ x < S 0 3)) ((0 ≤ x ∧ x < S 0 3) ∧ ¬ (0 ≤ y ∧ y ≤ S 0 10)) (False) := by
  refine Ct_.of (cc := cX3_whose) (maxL := 3) (ret := (some .int)) (by decide) rfl (Nat.le_of_ble_eq_true rfl) ?_
  intro p e s m args below meth c hC hts hr hlk hex hF
  have hK := hF.2.1
  have w3 : ∀ w ∈ u_ws RX3 TX3 11, w.before args s = true := fun w h => hts w (List.mem_cons_of_mem _ (List.mem_append_left _ (List.mem_append_left _ (List.mem_append_left _ (List.mem_append_right _ h)))))
  have f57 : (Cond.fieldLink RX3 57 "Grievancehall" "officeCount" "I").before args s = true := hts _ (by decide +kernel)
  have f68 : (Cond.fieldLink RX3 68 "Grievancehall" "today" "I").before args s = true := hts _ (by decide +kernel)
  refine gd_lveq (lv' := [(0, .ref (a 0)), (1, zz_v x), (2, zz_v y)]) rfl ?_
  obtain ⟨itc, ioc, iac, icc, itd, idc, ilc, iab, idv, iow, ikd, idy, ims, ihm, ict, iwv, irm, ipl, ian, ist, idl, ipe, ifi, ias, ihe, ifn, iod, ity⟩ := id hI
  obtain ⟨hx1, hx2⟩ := id hx
  obtain ⟨hy1, hy2⟩ := id hy
  refine gd_iload_n hC dX3_whose_0 rfl (j := 1) rfl ?_
  refine gd_aload_n hC dX3_whose_1 rfl (j := 0) rfl ?_
  refine gd_getI hC w3 hK (ci := 3) rfl (by decide) rfl 3 (by decide) rfl f57 rfl dX3_whose_2 (fun r1 => ?_)
  obtain ⟨r1a, r1b⟩ := id r1
  refine gd_callSN (As := [zz_v x, zz_v (S 0 3)]) (rest := []) hC hF (fun hR => c_X3_needNumber l hl9 N0 G Y a (S) x (S 0 3) ⟨by omega, by omega⟩ ⟨by omega, by omega⟩) (va_cwS 2 hts gX3_whose_X3_needNumber rfl rfl rfl (by decide +kernel) ⟨by decide, by decide⟩) rfl rfl (Nat.le_of_ble_eq_true rfl) dX3_whose_5 ⟨by decide, by decide⟩ (fun E hx => gx_out (Y := Y) (fun x h => (hex x h).elim) hlk ⟨rfl, zz_xm (fun z => by omega) (fun z => z.elim) (fun z => z.elim) hx⟩ (by decide)) (fun q2 => ?_)
  refine gd_iload_n hC dX3_whose_8 rfl (j := 2) rfl ?_
  refine gd_iconst hC dX3_whose_9 ?_
  refine gd_aload_n hC dX3_whose_10 rfl (j := 0) rfl ?_
  refine gd_getI hC w3 hK (ci := 3) rfl (by decide) rfl 10 (by decide) rfl f68 rfl dX3_whose_11 (fun r3 => ?_)
  obtain ⟨r3a, r3b⟩ := id r3
  refine gd_callSN (As := [zz_v y, zz_v 0, zz_v (S 0 10)]) (rest := []) hC hF (fun hR => c_X3_needRange l hl9 N0 G Y a (S) y 0 (S 0 10) ⟨by omega, by omega⟩ ⟨by decide, by decide⟩ ⟨by omega, by omega⟩) (va_cwS 3 hts gX3_whose_X3_needRange rfl rfl rfl (by decide +kernel) ⟨by decide, by decide⟩) rfl rfl (Nat.le_of_ble_eq_true rfl) dX3_whose_14 ⟨by decide, by decide⟩ (fun E hx => gx_out (Y := Y) (fun x h => (hex x h).elim) hlk ⟨rfl, zz_xm (fun z => z.elim) (fun z => by omega) (fun z => z.elim) hx⟩ (by decide)) (fun q4 => ?_)
  refine gd_aload_n hC dX3_whose_17 rfl (j := 0) rfl ?_
  refine gd_iload_n hC dX3_whose_18 rfl (j := 1) rfl ?_
  refine gd_iload_n hC dX3_whose_19 rfl (j := 2) rfl ?_
  refine gd_callVR (As := [zz_v x, zz_v y]) (rest := []) hC hF (fun hR => c_X3_ownerOn l hl9 N0 G Y a (S) x y ⟨by omega, by omega⟩ ⟨by omega, by omega⟩ (by omega)) (cwV 2 hts gX3_whose_X3_ownerOn rfl rfl rfl (by decide +kernel) ⟨by decide, by decide⟩) rfl (by decide) (ci := 3) rfl rfl rfl rfl (Nat.le_of_ble_eq_true rfl) dX3_whose_20 ⟨by decide, by decide⟩ (fun E hx => zz_xn hx) (fun q5 q5r => ?_)
  obtain ⟨q5a, q5b⟩ := id q5r
  exact gd_ireturn hC hr rfl hlk dX3_whose_23 (by decide) ⟨_, ⟨by omega, by omega⟩, rfl, (by first | rfl | ((repeat' split) <;> first | rfl | omega)), (by first | rfl | omega), (by omega)⟩

abbrev rm_X3_limit : Room := { frames := 7, cells := 2, slots := 12, locals := 104 }
set_option maxHeartbeats 4000000 in
set_option maxRecDepth 100000 in
theorem c_X3_limit (l : Launch) (hl9 : l.stackTraces = false) (N0 : Nat) (G : zz_G) (Y : zz_Y) (a : Nat → Nat) (S : zz_S) (x y : Int) (hx : zz_R x) (hy : zz_R y) (hd : S 7 3 < 512) (hI : zz_IC S) : CtR l yX3_limit wsX3_limit rm_X3_limit 2 [.ref (a 0), zz_v x, zz_v y] N0 G Y a S (zz_vo (S 8) (S 9) (S 10) x (S 0 10) 30 (S 7 3).toNat) (zz_u (zz_u (zz_u (zz_u (S) (8) ((S 7 3).toNat) (x)) (9) ((S 7 3).toNat) ((S 0 10))) (10) ((S 7 3).toNat) (y)) (7) (3) (S 7 3 + 1)) ((0 ≤ x ∧ x < 4) ∧ (0 ≤ y ∧ y ≤ 100)) (¬ (0 ≤ x ∧ x < 4)) ((0 ≤ x ∧ x < 4) ∧ ¬ (0 ≤ y ∧ y ≤ 100)) (False) := by
  refine Ct_.of (cc := cX3_limit) (maxL := 4) (ret := (some .int)) (by decide) rfl (Nat.le_of_ble_eq_true rfl) ?_
  intro p e s m args below meth c hC hts hr hlk hex hF
  have hK := hF.2.1
  have w3 : ∀ w ∈ u_ws RX3 TX3 11, w.before args s = true := fun w h => hts w (List.mem_cons_of_mem _ (List.mem_append_left _ (List.mem_append_left _ (List.mem_append_left _ (List.mem_append_right _ h)))))
  have f24 : (Cond.fieldLink RX3 24 "Grievancehall" "limits" "LGrievancehall$Changes;").before args s = true := hts _ (by decide +kernel)
  have f68 : (Cond.fieldLink RX3 68 "Grievancehall" "today" "I").before args s = true := hts _ (by decide +kernel)
  refine gd_lveq (lv' := [(0, .ref (a 0)), (1, zz_v x), (2, zz_v y)]) rfl ?_
  obtain ⟨itc, ioc, iac, icc, itd, idc, ilc, iab, idv, iow, ikd, idy, ims, ihm, ict, iwv, irm, ipl, ian, ist, idl, ipe, ifi, ias, ihe, ifn, iod, ity⟩ := id hI
  obtain ⟨hx1, hx2⟩ := id hx
  obtain ⟨hy1, hy2⟩ := id hy
  refine gd_iload_n hC dX3_limit_0 rfl (j := 1) rfl ?_
  refine gd_iconst hC dX3_limit_1 ?_
  refine gd_callSN (As := [zz_v x, zz_v 4]) (rest := []) hC hF (fun hR => c_X3_needNumber l hl9 N0 G Y a (S) x 4 ⟨by omega, by omega⟩ ⟨by decide, by decide⟩) (va_cwS 2 hts gX3_limit_X3_needNumber rfl rfl rfl (by decide +kernel) ⟨by decide, by decide⟩) rfl rfl (Nat.le_of_ble_eq_true rfl) dX3_limit_2 ⟨by decide, by decide⟩ (fun E hx => gx_out (Y := Y) (fun x h => (hex x h).elim) hlk ⟨rfl, zz_xm (fun z => by omega) (fun z => z.elim) (fun z => z.elim) hx⟩ (by decide)) (fun q1 => ?_)
  refine gd_iload_n hC dX3_limit_5 rfl (j := 2) rfl ?_
  refine gd_iconst hC dX3_limit_6 ?_
  refine gd_bipush hC dX3_limit_7 rfl ?_
  refine gd_callSN (As := [zz_v y, zz_v 0, zz_v 100]) (rest := []) hC hF (fun hR => c_X3_needRange l hl9 N0 G Y a (S) y 0 100 ⟨by omega, by omega⟩ ⟨by decide, by decide⟩ ⟨by decide, by decide⟩) (va_cwS 3 hts gX3_limit_X3_needRange rfl rfl rfl (by decide +kernel) ⟨by decide, by decide⟩) rfl rfl (Nat.le_of_ble_eq_true rfl) dX3_limit_9 ⟨by decide, by decide⟩ (fun E hx => gx_out (Y := Y) (fun x h => (hex x h).elim) hlk ⟨rfl, zz_xm (fun z => z.elim) (fun z => by omega) (fun z => z.elim) hx⟩ (by decide)) (fun q2 => ?_)
  refine gd_aload_n hC dX3_limit_12 rfl (j := 0) rfl ?_
  refine gd_getR hC w3 hK (ci := 3) rfl (by decide) rfl 5 (by decide) (j := 7) rfl f24 rfl dX3_limit_13 ?_
  refine gd_iload_n hC dX3_limit_16 rfl (j := 1) rfl ?_
  refine gd_aload_n hC dX3_limit_17 rfl (j := 0) rfl ?_
  refine gd_getI hC w3 hK (ci := 3) rfl (by decide) rfl 10 (by decide) rfl f68 rfl dX3_limit_18 (fun r3 => ?_)
  obtain ⟨r3a, r3b⟩ := id r3
  refine gd_bipush hC dX3_limit_21 rfl ?_
  refine gd_callVR (As := [zz_v x, zz_v (S 0 10), zz_v 30]) (rest := []) hC hF (fun hR => c_X1_valueOn_7 l hl9 N0 G Y a (S) x (S 0 10) 30 ⟨by omega, by omega⟩ ⟨by omega, by omega⟩ ⟨by decide, by decide⟩ (by omega)) (cwV 3 hts gX3_limit_X1_valueOn rfl rfl rfl (by decide +kernel) ⟨by decide, by decide⟩) rfl (by decide) (ci := 1) rfl rfl rfl rfl (Nat.le_of_ble_eq_true rfl) dX3_limit_23 ⟨by decide, by decide⟩ (fun E hx => zz_xn hx) (fun q4 q4r => ?_)
  obtain ⟨q4a, q4b⟩ := id q4r
  refine gd_istore_n hC dX3_limit_26 rfl (by decide) (lv' := [(3, zz_v (zz_vo (S 8) (S 9) (S 10) x (S 0 10) 30 (S 7 3).toNat)), (0, .ref (a 0)), (1, zz_v x), (2, zz_v y)]) rfl ?_
  refine gd_aload_n hC dX3_limit_27 rfl (j := 1) rfl ?_
  refine gd_getR hC w3 hK (ci := 3) rfl (by decide) rfl 5 (by decide) (j := 7) rfl f24 rfl dX3_limit_28 ?_
  refine gd_iload_n hC dX3_limit_31 rfl (j := 2) rfl ?_
  refine gd_aload_n hC dX3_limit_32 rfl (j := 1) rfl ?_
  refine gd_getI hC w3 hK (ci := 3) rfl (by decide) rfl 10 (by decide) rfl f68 rfl dX3_limit_33 (fun r5 => ?_)
  obtain ⟨r5a, r5b⟩ := id r5
  refine gd_iload_n hC dX3_limit_36 rfl (j := 3) rfl ?_
  refine gd_callVN (As := [zz_v x, zz_v (S 0 10), zz_v y]) (rest := []) hC hF (fun hR => c_X1_tell_7 l hl9 N0 G Y a (S) x (S 0 10) y ⟨by omega, by omega⟩ ⟨by omega, by omega⟩ ⟨by omega, by omega⟩ (by omega)) (cwV 3 hts gX3_limit_X1_tell rfl rfl rfl (by decide +kernel) ⟨by decide, by decide⟩) rfl (by decide) (ci := 1) rfl rfl rfl rfl (Nat.le_of_ble_eq_true rfl) dX3_limit_37 ⟨by decide, by decide⟩ (fun E hx => zz_xn hx) (fun q6 => ?_)
  refine gd_iload_n hC dX3_limit_40 rfl (j := 0) rfl ?_
  exact gd_ireturn hC hr rfl hlk dX3_limit_41 (by decide) ⟨_, ⟨by omega, by omega⟩, rfl, (by first | rfl | ((repeat' split) <;> first | rfl | omega)), (by first | rfl | omega), (by omega)⟩

abbrev rm_X3_court : Room := { frames := 7, cells := 1, slots := 6, locals := 103 }
set_option maxHeartbeats 4000000 in
set_option maxRecDepth 100000 in
theorem c_X3_court (l : Launch) (hl9 : l.stackTraces = false) (N0 : Nat) (G : zz_G) (Y : zz_Y) (a : Nat → Nat) (S : zz_S) (x y : Int) (hx : zz_R x) (hy : y = 0 ∨ y = 1) (hI : zz_IC S) : CtR l yX3_court wsX3_court rm_X3_court 1 [.ref (a 0), zz_v x, zz_v y] N0 G Y a S (S (13 + x.toNat) 5) (zz_u (S) (13 + x.toNat) (5) (y)) ((0 ≤ x ∧ x < S 0 7)) (¬ (0 ≤ x ∧ x < S 0 7)) (False) (False) := by
  refine Ct_.of (cc := cX3_court) (maxL := 4) (ret := (some .boolean)) (by decide) rfl (Nat.le_of_ble_eq_true rfl) ?_
  intro p e s m args below meth c hC hts hr hlk hex hF
  have hK := hF.2.1
  have w0 : ∀ w ∈ u_ws RX0 TX0 9, w.before args s = true := fun w h => hts w (List.mem_cons_of_mem _ (List.mem_append_left _ (List.mem_append_right _ h)))
  have w3 : ∀ w ∈ u_ws RX3 TX3 11, w.before args s = true := fun w h => hts w (List.mem_cons_of_mem _ (List.mem_append_left _ (List.mem_append_left _ (List.mem_append_right _ h))))
  have f29 : (Cond.fieldLink RX3 29 "Grievancehall" "acts" "[LGrievancehall$Act;").before args s = true := hts _ (by decide +kernel)
  have f86 : (Cond.fieldLink RX3 86 "Grievancehall" "actCount" "I").before args s = true := hts _ (by decide +kernel)
  have f99 : (Cond.fieldLink RX3 99 "Grievancehall$Act" "inCourt" "Z").before args s = true := hts _ (by decide +kernel)
  refine gd_lveq (lv' := [(0, .ref (a 0)), (1, zz_v x), (2, zz_v y)]) rfl ?_
  obtain ⟨itc, ioc, iac, icc, itd, idc, ilc, iab, idv, iow, ikd, idy, ims, ihm, ict, iwv, irm, ipl, ian, ist, idl, ipe, ifi, ias, ihe, ifn, iod, ity⟩ := id hI
  obtain ⟨hx1, hx2⟩ := id hx
  refine gd_iload_n hC dX3_court_0 rfl (j := 1) rfl ?_
  refine gd_aload_n hC dX3_court_1 rfl (j := 0) rfl ?_
  refine gd_getI hC w3 hK (ci := 3) rfl (by decide) rfl 7 (by decide) rfl f86 rfl dX3_court_2 (fun r1 => ?_)
  obtain ⟨r1a, r1b⟩ := id r1
  refine gd_callSN (As := [zz_v x, zz_v (S 0 7)]) (rest := []) hC hF (fun hR => c_X3_needNumber l hl9 N0 G Y a (S) x (S 0 7) ⟨by omega, by omega⟩ ⟨by omega, by omega⟩) (va_cwS 2 hts gX3_court_X3_needNumber rfl rfl rfl (by decide +kernel) ⟨by decide, by decide⟩) rfl rfl (Nat.le_of_ble_eq_true rfl) dX3_court_5 ⟨by decide, by decide⟩ (fun E hx => gx_out (Y := Y) (fun x h => (hex x h).elim) hlk ⟨rfl, zz_xm (fun z => by omega) (fun z => z.elim) (fun z => z.elim) hx⟩ (by decide)) (fun q2 => ?_)
  refine gd_aload_n hC dX3_court_8 rfl (j := 0) rfl ?_
  refine gd_getR hC w3 hK (ci := 3) rfl (by decide) rfl 6 (by decide) (j := 11) rfl f29 rfl dX3_court_9 ?_
  refine gd_iload_n hC dX3_court_12 rfl (j := 1) rfl ?_
  refine gd_aald hC hK (t := 2) (Cn := RX0) (j := x.toNat) (q := 13 + x.toNat) rfl (by decide) rfl (by omega) (by omega) (by decide) rfl dX3_court_13 ?_
  refine gd_getI hC w0 hK (ci := 0) (zz_act (by omega)) (by omega) rfl 5 (by decide) rfl f99 rfl dX3_court_14 (fun r3 => ?_)
  obtain ⟨r3a, r3b⟩ := id r3
  have hict := ict x.toNat (by omega)
  refine gd_istore_n hC dX3_court_17 rfl (by decide) (lv' := [(3, zz_v (S (13 + x.toNat) 5)), (0, .ref (a 0)), (1, zz_v x), (2, zz_v y)]) rfl ?_
  refine gd_aload_n hC dX3_court_18 rfl (j := 1) rfl ?_
  refine gd_getR hC w3 hK (ci := 3) rfl (by decide) rfl 6 (by decide) (j := 11) rfl f29 rfl dX3_court_19 ?_
  refine gd_iload_n hC dX3_court_22 rfl (j := 2) rfl ?_
  refine gd_aald hC hK (t := 2) (Cn := RX0) (j := x.toNat) (q := 13 + x.toNat) rfl (by decide) rfl (by omega) (by omega) (by decide) rfl dX3_court_23 ?_
  refine gd_iload_n hC dX3_court_24 rfl (j := 3) rfl ?_
  refine gd_put hC w0 tyX0 tyX0_ok nmX0 hK (ci := 0) (zz_act (by omega)) (by omega) rfl 5 (by decide) rfl f99 rfl rfl (ty := .boolean) (by decide +kernel) (zz_nb (by omega)) (zz_fb (by omega)) ⟨by omega, by omega⟩ dX3_court_25 ?_
  refine gd_iload_n hC dX3_court_28 rfl (j := 0) rfl ?_
  exact gd_ireturn hC hr (zz_nb (by omega)) hlk dX3_court_29 (by decide) ⟨_, ⟨by omega, by omega⟩, rfl, (by first | rfl | ((repeat' split) <;> first | rfl | omega)), (by first | rfl | omega), (by omega)⟩

abbrev rm_X3_waive : Room := { frames := 7, cells := 1, slots := 6, locals := 103 }
set_option maxHeartbeats 4000000 in
set_option maxRecDepth 100000 in
theorem c_X3_waive (l : Launch) (hl9 : l.stackTraces = false) (N0 : Nat) (G : zz_G) (Y : zz_Y) (a : Nat → Nat) (S : zz_S) (x y : Int) (hx : zz_R x) (hy : y = 0 ∨ y = 1) (hI : zz_IC S) : CtR l yX3_waive wsX3_waive rm_X3_waive 1 [.ref (a 0), zz_v x, zz_v y] N0 G Y a S (S (13 + x.toNat) 6) (zz_u (S) (13 + x.toNat) (6) (y)) ((0 ≤ x ∧ x < S 0 7)) (¬ (0 ≤ x ∧ x < S 0 7)) (False) (False) := by
  refine Ct_.of (cc := cX3_waive) (maxL := 4) (ret := (some .boolean)) (by decide) rfl (Nat.le_of_ble_eq_true rfl) ?_
  intro p e s m args below meth c hC hts hr hlk hex hF
  have hK := hF.2.1
  have w0 : ∀ w ∈ u_ws RX0 TX0 9, w.before args s = true := fun w h => hts w (List.mem_cons_of_mem _ (List.mem_append_left _ (List.mem_append_right _ h)))
  have w3 : ∀ w ∈ u_ws RX3 TX3 11, w.before args s = true := fun w h => hts w (List.mem_cons_of_mem _ (List.mem_append_left _ (List.mem_append_left _ (List.mem_append_right _ h))))
  have f29 : (Cond.fieldLink RX3 29 "Grievancehall" "acts" "[LGrievancehall$Act;").before args s = true := hts _ (by decide +kernel)
  have f86 : (Cond.fieldLink RX3 86 "Grievancehall" "actCount" "I").before args s = true := hts _ (by decide +kernel)
  have f103 : (Cond.fieldLink RX3 103 "Grievancehall$Act" "timeWaived" "Z").before args s = true := hts _ (by decide +kernel)
  refine gd_lveq (lv' := [(0, .ref (a 0)), (1, zz_v x), (2, zz_v y)]) rfl ?_
  obtain ⟨itc, ioc, iac, icc, itd, idc, ilc, iab, idv, iow, ikd, idy, ims, ihm, ict, iwv, irm, ipl, ian, ist, idl, ipe, ifi, ias, ihe, ifn, iod, ity⟩ := id hI
  obtain ⟨hx1, hx2⟩ := id hx
  refine gd_iload_n hC dX3_waive_0 rfl (j := 1) rfl ?_
  refine gd_aload_n hC dX3_waive_1 rfl (j := 0) rfl ?_
  refine gd_getI hC w3 hK (ci := 3) rfl (by decide) rfl 7 (by decide) rfl f86 rfl dX3_waive_2 (fun r1 => ?_)
  obtain ⟨r1a, r1b⟩ := id r1
  refine gd_callSN (As := [zz_v x, zz_v (S 0 7)]) (rest := []) hC hF (fun hR => c_X3_needNumber l hl9 N0 G Y a (S) x (S 0 7) ⟨by omega, by omega⟩ ⟨by omega, by omega⟩) (va_cwS 2 hts gX3_waive_X3_needNumber rfl rfl rfl (by decide +kernel) ⟨by decide, by decide⟩) rfl rfl (Nat.le_of_ble_eq_true rfl) dX3_waive_5 ⟨by decide, by decide⟩ (fun E hx => gx_out (Y := Y) (fun x h => (hex x h).elim) hlk ⟨rfl, zz_xm (fun z => by omega) (fun z => z.elim) (fun z => z.elim) hx⟩ (by decide)) (fun q2 => ?_)
  refine gd_aload_n hC dX3_waive_8 rfl (j := 0) rfl ?_
  refine gd_getR hC w3 hK (ci := 3) rfl (by decide) rfl 6 (by decide) (j := 11) rfl f29 rfl dX3_waive_9 ?_
  refine gd_iload_n hC dX3_waive_12 rfl (j := 1) rfl ?_
  refine gd_aald hC hK (t := 2) (Cn := RX0) (j := x.toNat) (q := 13 + x.toNat) rfl (by decide) rfl (by omega) (by omega) (by decide) rfl dX3_waive_13 ?_
  refine gd_getI hC w0 hK (ci := 0) (zz_act (by omega)) (by omega) rfl 6 (by decide) rfl f103 rfl dX3_waive_14 (fun r3 => ?_)
  obtain ⟨r3a, r3b⟩ := id r3
  have hiwv := iwv x.toNat (by omega)
  refine gd_istore_n hC dX3_waive_17 rfl (by decide) (lv' := [(3, zz_v (S (13 + x.toNat) 6)), (0, .ref (a 0)), (1, zz_v x), (2, zz_v y)]) rfl ?_
  refine gd_aload_n hC dX3_waive_18 rfl (j := 1) rfl ?_
  refine gd_getR hC w3 hK (ci := 3) rfl (by decide) rfl 6 (by decide) (j := 11) rfl f29 rfl dX3_waive_19 ?_
  refine gd_iload_n hC dX3_waive_22 rfl (j := 2) rfl ?_
  refine gd_aald hC hK (t := 2) (Cn := RX0) (j := x.toNat) (q := 13 + x.toNat) rfl (by decide) rfl (by omega) (by omega) (by decide) rfl dX3_waive_23 ?_
  refine gd_iload_n hC dX3_waive_24 rfl (j := 3) rfl ?_
  refine gd_put hC w0 tyX0 tyX0_ok nmX0 hK (ci := 0) (zz_act (by omega)) (by omega) rfl 6 (by decide) rfl f103 rfl rfl (ty := .boolean) (by decide +kernel) (zz_nb (by omega)) (zz_fb (by omega)) ⟨by omega, by omega⟩ dX3_waive_25 ?_
  refine gd_iload_n hC dX3_waive_28 rfl (j := 0) rfl ?_
  exact gd_ireturn hC hr (zz_nb (by omega)) hlk dX3_waive_29 (by decide) ⟨_, ⟨by omega, by omega⟩, rfl, (by first | rfl | ((repeat' split) <;> first | rfl | omega)), (by first | rfl | omega), (by omega)⟩

abbrev rm_X3_plea : Room := { frames := 7, cells := 3, slots := 18, locals := 103 }
set_option maxHeartbeats 4000000 in
set_option maxRecDepth 100000 in
theorem c_X3_plea (l : Launch) (hl9 : l.stackTraces = false) (N0 : Nat) (G : zz_G) (Y : zz_Y) (a : Nat → Nat) (S : zz_S) (x y : Int) (hx : zz_R x) (hy : zz_R y) (hI : zz_IC S) : CtN l yX3_plea wsX3_plea rm_X3_plea 3 [.ref (a 0), zz_v x, zz_v y] N0 G Y a S (zz_u (S) (37 + y.toNat) (x.toNat) (S 0 10)) ((0 ≤ x ∧ x < 10) ∧ (0 ≤ y ∧ y < S 0 7) ∧ S (37 + y.toNat) x.toNat = -1) (¬ (0 ≤ x ∧ x < 10) ∨ ¬ (0 ≤ y ∧ y < S 0 7)) (False) ((0 ≤ x ∧ x < 10) ∧ (0 ≤ y ∧ y < S 0 7) ∧ ¬ S (37 + y.toNat) x.toNat = -1) := by
  refine Ct_.of (cc := cX3_plea) (maxL := 3) (ret := none) (by decide) rfl (Nat.le_of_ble_eq_true rfl) ?_
  intro p e s m args below meth c hC hts hr hlk hex hF
  have hK := hF.2.1
  have w0 : ∀ w ∈ u_ws RX0 TX0 9, w.before args s = true := fun w h => hts w (List.mem_cons_of_mem _ (List.mem_append_left _ (List.mem_append_left _ (List.mem_append_right _ h))))
  have w3 : ∀ w ∈ u_ws RX3 TX3 11, w.before args s = true := fun w h => hts w (List.mem_cons_of_mem _ (List.mem_append_left _ (List.mem_append_left _ (List.mem_append_left _ (List.mem_append_right _ h)))))
  have f29 : (Cond.fieldLink RX3 29 "Grievancehall" "acts" "[LGrievancehall$Act;").before args s = true := hts _ (by decide +kernel)
  have f68 : (Cond.fieldLink RX3 68 "Grievancehall" "today" "I").before args s = true := hts _ (by decide +kernel)
  have f86 : (Cond.fieldLink RX3 86 "Grievancehall" "actCount" "I").before args s = true := hts _ (by decide +kernel)
  have f106 : (Cond.fieldLink RX3 106 "Grievancehall$Act" "pleaDays" "[I").before args s = true := hts _ (by decide +kernel)
  have t3 : ∀ w ∈ (vx_atS RX3 56 "java/lang/IllegalStateException" ["java/lang/RuntimeException", "java/lang/Exception"]).filter goodWord, w.before args s = true := fun w h => hts w (List.mem_cons_of_mem _ (List.mem_append_left _ (List.mem_append_right _ h)))
  refine gd_lveq (lv' := [(0, .ref (a 0)), (1, zz_v x), (2, zz_v y)]) rfl ?_
  obtain ⟨itc, ioc, iac, icc, itd, idc, ilc, iab, idv, iow, ikd, idy, ims, ihm, ict, iwv, irm, ipl, ian, ist, idl, ipe, ifi, ias, ihe, ifn, iod, ity⟩ := id hI
  obtain ⟨hx1, hx2⟩ := id hx
  obtain ⟨hy1, hy2⟩ := id hy
  refine gd_iload_n hC dX3_plea_0 rfl (j := 1) rfl ?_
  refine gd_bipush hC dX3_plea_1 rfl ?_
  refine gd_callSN (As := [zz_v x, zz_v 10]) (rest := []) hC hF (fun hR => c_X3_needNumber l hl9 N0 G Y a (S) x 10 ⟨by omega, by omega⟩ ⟨by decide, by decide⟩) (va_cwS 2 hts gX3_plea_X3_needNumber rfl rfl rfl (by decide +kernel) ⟨by decide, by decide⟩) rfl rfl (Nat.le_of_ble_eq_true rfl) dX3_plea_3 ⟨by decide, by decide⟩ (fun E hx => gx_out (Y := Y) (fun x h => (hex x h).elim) hlk ⟨rfl, zz_xm (fun z => by omega) (fun z => z.elim) (fun z => z.elim) hx⟩ (by decide)) (fun q1 => ?_)
  refine gd_iload_n hC dX3_plea_6 rfl (j := 2) rfl ?_
  refine gd_aload_n hC dX3_plea_7 rfl (j := 0) rfl ?_
  refine gd_getI hC w3 hK (ci := 3) rfl (by decide) rfl 7 (by decide) rfl f86 rfl dX3_plea_8 (fun r2 => ?_)
  obtain ⟨r2a, r2b⟩ := id r2
  refine gd_callSN (As := [zz_v y, zz_v (S 0 7)]) (rest := []) hC hF (fun hR => c_X3_needNumber l hl9 N0 G Y a (S) y (S 0 7) ⟨by omega, by omega⟩ ⟨by omega, by omega⟩) (va_cwS 2 hts gX3_plea_X3_needNumber rfl rfl rfl (by decide +kernel) ⟨by decide, by decide⟩) rfl rfl (Nat.le_of_ble_eq_true rfl) dX3_plea_11 ⟨by decide, by decide⟩ (fun E hx => gx_out (Y := Y) (fun x h => (hex x h).elim) hlk ⟨rfl, zz_xm (fun z => by omega) (fun z => z.elim) (fun z => z.elim) hx⟩ (by decide)) (fun q3 => ?_)
  refine gd_aload_n hC dX3_plea_14 rfl (j := 0) rfl ?_
  refine gd_getR hC w3 hK (ci := 3) rfl (by decide) rfl 6 (by decide) (j := 11) rfl f29 rfl dX3_plea_15 ?_
  refine gd_iload_n hC dX3_plea_18 rfl (j := 2) rfl ?_
  refine gd_aald hC hK (t := 2) (Cn := RX0) (j := y.toNat) (q := 13 + y.toNat) rfl (by decide) rfl (by omega) (by omega) (by decide) rfl dX3_plea_19 ?_
  refine gd_getR hC w0 hK (ci := 0) (zz_act (by omega)) (by omega) rfl 8 (by decide) (j := 37 + y.toNat) rfl f106 rfl dX3_plea_20 ?_
  refine gd_iload_n hC dX3_plea_23 rfl (j := 1) rfl ?_
  refine gd_iald hC hK (j := x.toNat) (zz_plea (by omega)) (by omega) (by omega) (by omega) (by decide) dX3_plea_24 (fun r4 => ?_)
  obtain ⟨r4a, r4b⟩ := id r4
  refine gd_iconst hC dX3_plea_25 ?_
  refine gd_icmp_eq hC dX3_plea_26 (tgt := 39) (by decide) ⟨by omega, by omega⟩ ⟨by decide, by decide⟩ (fun c5 => ?_) (fun c5 => ?_)
  · skip
    refine gd_aload_n hC dX3_plea_39 rfl (j := 0) rfl ?_
    refine gd_getR hC w3 hK (ci := 3) rfl (by decide) rfl 6 (by decide) (j := 11) rfl f29 rfl dX3_plea_40 ?_
    refine gd_iload_n hC dX3_plea_43 rfl (j := 2) rfl ?_
    refine gd_aald hC hK (t := 2) (Cn := RX0) (j := y.toNat) (q := 13 + y.toNat) rfl (by decide) rfl (by omega) (by omega) (by decide) rfl dX3_plea_44 ?_
    refine gd_getR hC w0 hK (ci := 0) (zz_act (by omega)) (by omega) rfl 8 (by decide) (j := 37 + y.toNat) rfl f106 rfl dX3_plea_45 ?_
    refine gd_iload_n hC dX3_plea_48 rfl (j := 1) rfl ?_
    refine gd_aload_n hC dX3_plea_49 rfl (j := 0) rfl ?_
    refine gd_getI hC w3 hK (ci := 3) rfl (by decide) rfl 10 (by decide) rfl f68 rfl dX3_plea_50 (fun r6 => ?_)
    obtain ⟨r6a, r6b⟩ := id r6
    refine gd_iast hC hK (j := x.toNat) (zz_plea (by omega)) (by omega) (by omega) (by omega) (by decide) ⟨by omega, by omega⟩ dX3_plea_53 ?_
    exact gd_return hC hr hlk dX3_plea_54 (by decide) ⟨rfl, (by first | rfl | ((repeat' split) <;> first | rfl | omega)), (by omega)⟩
  · skip
    exact gd_throw3 (text := "that person made a plea of it") hC hl9 hF (hts _ (by decide +kernel)) (hts _ (by decide +kernel)) (by decide +kernel) t3 dX3_plea_29 dX3_plea_32 dX3_plea_33 dX3_plea_35 dX3_plea_38 hex (by decide) (by decide) (by decide) (by decide) hlk rfl (by omega) (by decide)

abbrev rm_X3_bar : Room := { frames := 7, cells := 2, slots := 12, locals := 103 }
set_option maxHeartbeats 4000000 in
set_option maxRecDepth 100000 in
theorem c_X3_bar (l : Launch) (hl9 : l.stackTraces = false) (N0 : Nat) (G : zz_G) (Y : zz_Y) (a : Nat → Nat) (S : zz_S) (x y : Int) (hx : zz_R x) (hy : zz_R y) (hI : zz_IC S) : CtR l yX3_bar wsX3_bar rm_X3_bar 2 [.ref (a 0), zz_v x, zz_v y] N0 G Y a S (zz_ba S y.toNat x.toNat (S 0 10)) (S) ((0 ≤ x ∧ x < 10) ∧ (0 ≤ y ∧ y < S 0 7)) (¬ (0 ≤ x ∧ x < 10) ∨ ¬ (0 ≤ y ∧ y < S 0 7)) (False) (False) := by
  refine Ct_.of (cc := cX3_bar) (maxL := 3) (ret := (some .int)) (by decide) rfl (Nat.le_of_ble_eq_true rfl) ?_
  intro p e s m args below meth c hC hts hr hlk hex hF
  have hK := hF.2.1
  have w3 : ∀ w ∈ u_ws RX3 TX3 11, w.before args s = true := fun w h => hts w (List.mem_cons_of_mem _ (List.mem_append_left _ (List.mem_append_left _ (List.mem_append_right _ h))))
  have f29 : (Cond.fieldLink RX3 29 "Grievancehall" "acts" "[LGrievancehall$Act;").before args s = true := hts _ (by decide +kernel)
  have f68 : (Cond.fieldLink RX3 68 "Grievancehall" "today" "I").before args s = true := hts _ (by decide +kernel)
  have f86 : (Cond.fieldLink RX3 86 "Grievancehall" "actCount" "I").before args s = true := hts _ (by decide +kernel)
  refine gd_lveq (lv' := [(0, .ref (a 0)), (1, zz_v x), (2, zz_v y)]) rfl ?_
  obtain ⟨itc, ioc, iac, icc, itd, idc, ilc, iab, idv, iow, ikd, idy, ims, ihm, ict, iwv, irm, ipl, ian, ist, idl, ipe, ifi, ias, ihe, ifn, iod, ity⟩ := id hI
  obtain ⟨hx1, hx2⟩ := id hx
  obtain ⟨hy1, hy2⟩ := id hy
  refine gd_iload_n hC dX3_bar_0 rfl (j := 1) rfl ?_
  refine gd_bipush hC dX3_bar_1 rfl ?_
  refine gd_callSN (As := [zz_v x, zz_v 10]) (rest := []) hC hF (fun hR => c_X3_needNumber l hl9 N0 G Y a (S) x 10 ⟨by omega, by omega⟩ ⟨by decide, by decide⟩) (va_cwS 2 hts gX3_bar_X3_needNumber rfl rfl rfl (by decide +kernel) ⟨by decide, by decide⟩) rfl rfl (Nat.le_of_ble_eq_true rfl) dX3_bar_3 ⟨by decide, by decide⟩ (fun E hx => gx_out (Y := Y) (fun x h => (hex x h).elim) hlk ⟨rfl, zz_xm (fun z => by omega) (fun z => z.elim) (fun z => z.elim) hx⟩ (by decide)) (fun q1 => ?_)
  refine gd_iload_n hC dX3_bar_6 rfl (j := 2) rfl ?_
  refine gd_aload_n hC dX3_bar_7 rfl (j := 0) rfl ?_
  refine gd_getI hC w3 hK (ci := 3) rfl (by decide) rfl 7 (by decide) rfl f86 rfl dX3_bar_8 (fun r2 => ?_)
  obtain ⟨r2a, r2b⟩ := id r2
  refine gd_callSN (As := [zz_v y, zz_v (S 0 7)]) (rest := []) hC hF (fun hR => c_X3_needNumber l hl9 N0 G Y a (S) y (S 0 7) ⟨by omega, by omega⟩ ⟨by omega, by omega⟩) (va_cwS 2 hts gX3_bar_X3_needNumber rfl rfl rfl (by decide +kernel) ⟨by decide, by decide⟩) rfl rfl (Nat.le_of_ble_eq_true rfl) dX3_bar_11 ⟨by decide, by decide⟩ (fun E hx => gx_out (Y := Y) (fun x h => (hex x h).elim) hlk ⟨rfl, zz_xm (fun z => by omega) (fun z => z.elim) (fun z => z.elim) hx⟩ (by decide)) (fun q3 => ?_)
  refine gd_aload_n hC dX3_bar_14 rfl (j := 0) rfl ?_
  refine gd_getR hC w3 hK (ci := 3) rfl (by decide) rfl 6 (by decide) (j := 11) rfl f29 rfl dX3_bar_15 ?_
  refine gd_iload_n hC dX3_bar_18 rfl (j := 2) rfl ?_
  refine gd_aald hC hK (t := 2) (Cn := RX0) (j := y.toNat) (q := 13 + y.toNat) rfl (by decide) rfl (by omega) (by omega) (by decide) rfl dX3_bar_19 ?_
  refine gd_iload_n hC dX3_bar_20 rfl (j := 1) rfl ?_
  refine gd_aload_n hC dX3_bar_21 rfl (j := 0) rfl ?_
  refine gd_getI hC w3 hK (ci := 3) rfl (by decide) rfl 10 (by decide) rfl f68 rfl dX3_bar_22 (fun r4 => ?_)
  obtain ⟨r4a, r4b⟩ := id r4
  have hdy := idy y.toNat (by omega)
  have hpl := ipl y.toNat (by omega) x.toNat (by omega)
  refine gd_callVR (As := [zz_v x, zz_v (S 0 10)]) (rest := []) hC hF (fun hR => c_X0_barOn l hl9 N0 G Y a (S) y.toNat x (S 0 10) x.toNat (by omega) (by omega) (by omega) (by omega) (by omega) (by omega)) (cwV 2 hts gX3_bar_X0_barOn rfl rfl rfl (by decide +kernel) ⟨by decide, by decide⟩) (zz_act (by omega)) (by omega) (ci := 0) rfl rfl rfl rfl (Nat.le_of_ble_eq_true rfl) dX3_bar_25 ⟨by decide, by decide⟩ (fun E hx => zz_xn hx) (fun q5 q5r => ?_)
  obtain ⟨q5a, q5b⟩ := id q5r
  exact gd_ireturn hC hr rfl hlk dX3_bar_28 (by decide) ⟨_, ⟨by omega, by omega⟩, rfl, (by first | rfl | ((repeat' split) <;> first | rfl | omega)), (by first | rfl | omega), (by omega)⟩

abbrev rm_X3_beginComplaint : Room := { frames := 6, cells := 1, slots := 6, locals := 82 }
set_option maxHeartbeats 4000000 in
set_option maxRecDepth 100000 in
theorem c_X3_beginComplaint (l : Launch) (hl9 : l.stackTraces = false) (N0 : Nat) (G : zz_G) (Y : zz_Y) (a : Nat → Nat) (S : zz_S) (x : Int) (hx : zz_R x) (hn : 0 ≤ S 0 9 ∧ S 0 9 ≤ 16) : CtR l yX3_beginComplaint wsX3_beginComplaint rm_X3_beginComplaint 1 [.ref (a 0), zz_v x] N0 G Y a S (S 0 9) (zz_u (zz_bg S (S 0 9).toNat x) 0 9 (S 0 9 + 1)) (S 0 9 < 16) (False) (False) (16 ≤ S 0 9) := by
  refine Ct_.of (cc := cX3_beginComplaint) (maxL := 3) (ret := (some .int)) (by decide) rfl (Nat.le_of_ble_eq_true rfl) ?_
  intro p e s m args below meth c hC hts hr hlk hex hF
  have hK := hF.2.1
  have w3 : ∀ w ∈ u_ws RX3 TX3 11, w.before args s = true := fun w h => hts w (List.mem_cons_of_mem _ (List.mem_append_left _ (List.mem_append_left _ (List.mem_append_right _ h))))
  have f36 : (Cond.fieldLink RX3 36 "Grievancehall" "complaints" "[LGrievancehall$Complaint;").before args s = true := hts _ (by decide +kernel)
  have f127 : (Cond.fieldLink RX3 127 "Grievancehall" "complaintCount" "I").before args s = true := hts _ (by decide +kernel)
  have t3 : ∀ w ∈ (vx_atS RX3 56 "java/lang/IllegalStateException" ["java/lang/RuntimeException", "java/lang/Exception"]).filter goodWord, w.before args s = true := fun w h => hts w (List.mem_cons_of_mem _ (List.mem_append_right _ h))
  refine gd_lveq (lv' := [(0, .ref (a 0)), (1, zz_v x)]) rfl ?_
  obtain ⟨hx1, hx2⟩ := id hx
  refine gd_aload_n hC dX3_beginComplaint_0 rfl (j := 0) rfl ?_
  refine gd_getI hC w3 hK (ci := 3) rfl (by decide) rfl 9 (by decide) rfl f127 rfl dX3_beginComplaint_1 (fun r1 => ?_)
  obtain ⟨r1a, r1b⟩ := id r1
  refine gd_bipush hC dX3_beginComplaint_4 rfl ?_
  refine gd_icmp_lt hC dX3_beginComplaint_6 (tgt := 19) (by decide) ⟨by omega, by omega⟩ ⟨by decide, by decide⟩ (fun c2 => ?_) (fun c2 => ?_)
  · skip
    refine gd_aload_n hC dX3_beginComplaint_19 rfl (j := 0) rfl ?_
    refine gd_getI hC w3 hK (ci := 3) rfl (by decide) rfl 9 (by decide) rfl f127 rfl dX3_beginComplaint_20 (fun r3 => ?_)
    obtain ⟨r3a, r3b⟩ := id r3
    refine gd_istore_n hC dX3_beginComplaint_23 rfl (by decide) (lv' := [(2, zz_v (S 0 9)), (0, .ref (a 0)), (1, zz_v x)]) rfl ?_
    refine gd_aload_n hC dX3_beginComplaint_24 rfl (j := 1) rfl ?_
    refine gd_getR hC w3 hK (ci := 3) rfl (by decide) rfl 8 (by decide) (j := 12) rfl f36 rfl dX3_beginComplaint_25 ?_
    refine gd_iload_n hC dX3_beginComplaint_28 rfl (j := 0) rfl ?_
    refine gd_aald hC hK (t := 3) (Cn := RX2) (j := (S 0 9).toNat) (q := 61 + (S 0 9).toNat) rfl (by decide) rfl (by omega) (by omega) (by decide) rfl dX3_beginComplaint_29 ?_
    refine gd_iload_n hC dX3_beginComplaint_30 rfl (j := 2) rfl ?_
    refine gd_callVN (As := [zz_v x]) (rest := []) hC hF (fun hR => c_X2_begin l hl9 N0 G Y a (S) (S 0 9).toNat x (by omega) ⟨by omega, by omega⟩) (cwV 1 hts gX3_beginComplaint_X2_begin rfl rfl rfl (by decide +kernel) ⟨by decide, by decide⟩) (zz_cmp (by omega)) (by omega) (ci := 2) rfl rfl rfl rfl (Nat.le_of_ble_eq_true rfl) dX3_beginComplaint_31 ⟨by decide, by decide⟩ (fun E hx => zz_xn hx) (fun q4 => ?_)
    refine gd_aload_n hC dX3_beginComplaint_34 rfl (j := 1) rfl ?_
    refine gd_dup hC dX3_beginComplaint_35 rfl ?_
    refine gd_getI hC w3 hK (ci := 3) rfl (by decide) rfl 9 (by decide) rfl f127 rfl dX3_beginComplaint_36 (fun r5 => ?_)
    obtain ⟨r5a, r5b⟩ := id r5
    refine gd_top (y := S 0 9) ((zz_u_ne _ _ (by omega)).trans ((zz_u_ne _ _ (by omega)).trans ((zz_u_ne _ _ (by omega)).trans ((zz_u_ne _ _ (by omega)).trans (zz_u_ne _ _ (by omega)))))) ?_
    rw [((zz_u_ne _ _ (by omega)).trans ((zz_u_ne _ _ (by omega)).trans ((zz_u_ne _ _ (by omega)).trans ((zz_u_ne _ _ (by omega)).trans (zz_u_ne _ _ (by omega))))) : (zz_u (zz_u (zz_u (zz_u (zz_u (S) (61 + (S 0 9).toNat) (0) (x)) (61 + (S 0 9).toNat) (1) (0)) (61 + (S 0 9).toNat) (2) (60)) (61 + (S 0 9).toNat) (4) (0)) (61 + (S 0 9).toNat) (7) (-1)) (0) (9) = S 0 9)] at r5a r5b
    refine gd_iconst hC dX3_beginComplaint_39 ?_
    refine gd_iadd hC dX3_beginComplaint_40 ?_
    refine gd_put hC w3 tyX3 tyX3_ok nmX3 hK (ci := 3) rfl (by decide) rfl 9 (by decide) rfl f127 rfl rfl (ty := .int) (by decide +kernel) rfl rfl ⟨by omega, by omega⟩ dX3_beginComplaint_41 ?_
    refine gd_iload_n hC dX3_beginComplaint_44 rfl (j := 0) rfl ?_
    exact gd_ireturn hC hr rfl hlk dX3_beginComplaint_45 (by decide) ⟨_, ⟨by omega, by omega⟩, rfl, (by first | rfl | ((repeat' split) <;> first | rfl | omega)), (by first | rfl | omega), (by omega)⟩
  · skip
    exact gd_throw3 (text := "no more complaints") hC hl9 hF (hts _ (by decide +kernel)) (hts _ (by decide +kernel)) (by decide +kernel) t3 dX3_beginComplaint_9 dX3_beginComplaint_12 dX3_beginComplaint_13 dX3_beginComplaint_15 dX3_beginComplaint_18 hex (by decide) (by decide) (by decide) (by decide) hlk rfl (by omega) (by decide)

abbrev rm_X3_complain : Room := { frames := 7, cells := 4, slots := 24, locals := 104 }
set_option maxHeartbeats 4000000 in
set_option maxRecDepth 100000 in
theorem c_X3_complain (l : Launch) (hl9 : l.stackTraces = false) (N0 : Nat) (G : zz_G) (Y : zz_Y) (a : Nat → Nat) (S : zz_S) (x y : Int) (hx : zz_R x) (hy : zz_R y) (hI : zz_IC S) : CtR l yX3_complain wsX3_complain rm_X3_complain 4 [.ref (a 0), zz_v x, zz_v y] N0 G Y a S (if zz_cj S y (S 0 9).toNat 0 = -1 then S 0 9 else zz_cj S y (S 0 9).toNat 0) (zz_cS S x y) ((0 ≤ x ∧ x < 10) ∧ (0 ≤ y ∧ y < S 0 7) ∧ zz_ba S y.toNat x.toNat (S 0 10) = 0 ∧ (zz_cj S y (S 0 9).toNat 0 = -1 → S 0 9 < 16)) (¬ (0 ≤ x ∧ x < 10) ∨ ¬ (0 ≤ y ∧ y < S 0 7)) (False) ((0 ≤ x ∧ x < 10) ∧ (0 ≤ y ∧ y < S 0 7) ∧ (¬ zz_ba S y.toNat x.toNat (S 0 10) = 0 ∨ (zz_cj S y (S 0 9).toNat 0 = -1 ∧ 16 ≤ S 0 9))) := by
  refine Ct_.of (cc := cX3_complain) (maxL := 4) (ret := (some .int)) (by decide) rfl (Nat.le_of_ble_eq_true rfl) ?_
  intro p e s m args below meth c hC hts hr hlk hex hF
  have hK := hF.2.1
  have w3 : ∀ w ∈ u_ws RX3 TX3 11, w.before args s = true := fun w h => hts w (List.mem_cons_of_mem _ (List.mem_append_left _ (List.mem_append_left _ (List.mem_append_left _ (List.mem_append_left _ (List.mem_append_right _ h))))))
  have f29 : (Cond.fieldLink RX3 29 "Grievancehall" "acts" "[LGrievancehall$Act;").before args s = true := hts _ (by decide +kernel)
  have f36 : (Cond.fieldLink RX3 36 "Grievancehall" "complaints" "[LGrievancehall$Complaint;").before args s = true := hts _ (by decide +kernel)
  have f68 : (Cond.fieldLink RX3 68 "Grievancehall" "today" "I").before args s = true := hts _ (by decide +kernel)
  have f86 : (Cond.fieldLink RX3 86 "Grievancehall" "actCount" "I").before args s = true := hts _ (by decide +kernel)
  have t3 : ∀ w ∈ (vx_atS RX3 56 "java/lang/IllegalStateException" ["java/lang/RuntimeException", "java/lang/Exception"]).filter goodWord, w.before args s = true := fun w h => hts w (List.mem_cons_of_mem _ (List.mem_append_left _ (List.mem_append_right _ h)))
  refine gd_lveq (lv' := [(0, .ref (a 0)), (1, zz_v x), (2, zz_v y)]) rfl ?_
  obtain ⟨itc, ioc, iac, icc, itd, idc, ilc, iab, idv, iow, ikd, idy, ims, ihm, ict, iwv, irm, ipl, ian, ist, idl, ipe, ifi, ias, ihe, ifn, iod, ity⟩ := id hI
  obtain ⟨hx1, hx2⟩ := id hx
  obtain ⟨hy1, hy2⟩ := id hy
  refine gd_iload_n hC dX3_complain_0 rfl (j := 1) rfl ?_
  refine gd_bipush hC dX3_complain_1 rfl ?_
  refine gd_callSN (As := [zz_v x, zz_v 10]) (rest := []) hC hF (fun hR => c_X3_needNumber l hl9 N0 G Y a (S) x 10 ⟨by omega, by omega⟩ ⟨by decide, by decide⟩) (va_cwS 2 hts gX3_complain_X3_needNumber rfl rfl rfl (by decide +kernel) ⟨by decide, by decide⟩) rfl rfl (Nat.le_of_ble_eq_true rfl) dX3_complain_3 ⟨by decide, by decide⟩ (fun E hx => gx_out (Y := Y) (fun x h => (hex x h).elim) hlk ⟨rfl, zz_xm (fun z => by omega) (fun z => z.elim) (fun z => z.elim) hx⟩ (by decide)) (fun q1 => ?_)
  refine gd_iload_n hC dX3_complain_6 rfl (j := 2) rfl ?_
  refine gd_aload_n hC dX3_complain_7 rfl (j := 0) rfl ?_
  refine gd_getI hC w3 hK (ci := 3) rfl (by decide) rfl 7 (by decide) rfl f86 rfl dX3_complain_8 (fun r2 => ?_)
  obtain ⟨r2a, r2b⟩ := id r2
  refine gd_callSN (As := [zz_v y, zz_v (S 0 7)]) (rest := []) hC hF (fun hR => c_X3_needNumber l hl9 N0 G Y a (S) y (S 0 7) ⟨by omega, by omega⟩ ⟨by omega, by omega⟩) (va_cwS 2 hts gX3_complain_X3_needNumber rfl rfl rfl (by decide +kernel) ⟨by decide, by decide⟩) rfl rfl (Nat.le_of_ble_eq_true rfl) dX3_complain_11 ⟨by decide, by decide⟩ (fun E hx => gx_out (Y := Y) (fun x h => (hex x h).elim) hlk ⟨rfl, zz_xm (fun z => by omega) (fun z => z.elim) (fun z => z.elim) hx⟩ (by decide)) (fun q3 => ?_)
  refine gd_aload_n hC dX3_complain_14 rfl (j := 0) rfl ?_
  refine gd_getR hC w3 hK (ci := 3) rfl (by decide) rfl 6 (by decide) (j := 11) rfl f29 rfl dX3_complain_15 ?_
  refine gd_iload_n hC dX3_complain_18 rfl (j := 2) rfl ?_
  refine gd_aald hC hK (t := 2) (Cn := RX0) (j := y.toNat) (q := 13 + y.toNat) rfl (by decide) rfl (by omega) (by omega) (by decide) rfl dX3_complain_19 ?_
  refine gd_iload_n hC dX3_complain_20 rfl (j := 1) rfl ?_
  refine gd_aload_n hC dX3_complain_21 rfl (j := 0) rfl ?_
  refine gd_getI hC w3 hK (ci := 3) rfl (by decide) rfl 10 (by decide) rfl f68 rfl dX3_complain_22 (fun r4 => ?_)
  obtain ⟨r4a, r4b⟩ := id r4
  have hdy := idy y.toNat (by omega)
  have hpl := ipl y.toNat (by omega) x.toNat (by omega)
  refine gd_callVR (As := [zz_v x, zz_v (S 0 10)]) (rest := []) hC hF (fun hR => c_X0_barOn l hl9 N0 G Y a (S) y.toNat x (S 0 10) x.toNat (by omega) (by omega) (by omega) (by omega) (by omega) (by omega)) (cwV 2 hts gX3_complain_X0_barOn rfl rfl rfl (by decide +kernel) ⟨by decide, by decide⟩) (zz_act (by omega)) (by omega) (ci := 0) rfl rfl rfl rfl (Nat.le_of_ble_eq_true rfl) dX3_complain_25 ⟨by decide, by decide⟩ (fun E hx => zz_xn hx) (fun q5 q5r => ?_)
  obtain ⟨q5a, q5b⟩ := id q5r
  refine gd_if_eq hC dX3_complain_28 (tgt := 41) (by decide) ⟨by omega, by omega⟩ (fun c6 => ?_) (fun c6 => ?_)
  · skip
    refine gd_aload_n hC dX3_complain_41 rfl (j := 0) rfl ?_
    refine gd_iload_n hC dX3_complain_42 rfl (j := 2) rfl ?_
    refine gd_callVR (As := [zz_v y]) (rest := []) hC hF (fun hR => c_X3_complaintToJoin l hl9 N0 G Y a (S) y ⟨by omega, by omega⟩ (by omega)) (cwV 1 hts gX3_complain_X3_complaintToJoin rfl rfl rfl (by decide +kernel) ⟨by decide, by decide⟩) rfl (by decide) (ci := 3) rfl rfl rfl rfl (Nat.le_of_ble_eq_true rfl) dX3_complain_43 ⟨by decide, by decide⟩ (fun E hx => zz_xn hx) (fun q7 q7r => ?_)
    obtain ⟨q7a, q7b⟩ := id q7r
    refine gd_istore_n hC dX3_complain_46 rfl (by decide) (lv' := [(3, zz_v (zz_cj S y (S 0 9).toNat 0)), (0, .ref (a 0)), (1, zz_v x), (2, zz_v y)]) rfl ?_
    refine gd_iload_n hC dX3_complain_47 rfl (j := 0) rfl ?_
    refine gd_iconst hC dX3_complain_48 ?_
    refine gd_icmp_ne hC dX3_complain_49 (tgt := 58) (by decide) ⟨by omega, by omega⟩ ⟨by decide, by decide⟩ (fun c8 => ?_) (fun c8 => ?_)
    · skip
      refine gd_aload_n hC dX3_complain_58 rfl (j := 1) rfl ?_
      refine gd_getR hC w3 hK (ci := 3) rfl (by decide) rfl 8 (by decide) (j := 12) rfl f36 rfl dX3_complain_59 ?_
      refine gd_iload_n hC dX3_complain_62 rfl (j := 0) rfl ?_
      refine gd_aald hC hK (t := 3) (Cn := RX2) (j := (zz_cj S y (S 0 9).toNat 0).toNat) (q := 61 + (zz_cj S y (S 0 9).toNat 0).toNat) rfl (by decide) rfl (by omega) (by omega) (by decide) rfl dX3_complain_63 ?_
      refine gd_iload_n hC dX3_complain_64 rfl (j := 2) rfl ?_
      have hpe := ipe (zz_cj S y (S 0 9).toNat 0).toNat (by omega)
      refine gd_callVN (As := [zz_v x]) (rest := []) hC hF (fun hR => c_X2_join l hl9 N0 G Y a (S) (zz_cj S y (S 0 9).toNat 0).toNat x (by omega) (by omega) (by omega)) (cwV 1 hts gX3_complain_X2_join rfl rfl rfl (by decide +kernel) ⟨by decide, by decide⟩) (zz_cmp (by omega)) (by omega) (ci := 2) rfl rfl rfl rfl (Nat.le_of_ble_eq_true rfl) dX3_complain_65 ⟨by decide, by decide⟩ (fun E hx => zz_xn hx) (fun q9 => ?_)
      refine gd_iload_n hC dX3_complain_68 rfl (j := 0) rfl ?_
      exact gd_ireturn hC hr rfl hlk dX3_complain_69 (by decide) ⟨_, ⟨by omega, by omega⟩, rfl, (by unfold zz_cS; first | (rw [if_pos (by omega)]; rfl) | (rw [if_neg (by omega)]; rfl)), (by first | rfl | omega), (by omega)⟩
    · skip
      refine gd_aload_n hC dX3_complain_52 rfl (j := 1) rfl ?_
      refine gd_iload_n hC dX3_complain_53 rfl (j := 3) rfl ?_
      refine gd_callVR (As := [zz_v y]) (rest := []) hC hF (fun hR => c_X3_beginComplaint l hl9 N0 G Y a (S) y ⟨by omega, by omega⟩ (by omega)) (cwV 1 hts gX3_complain_X3_beginComplaint rfl rfl rfl (by decide +kernel) ⟨by decide, by decide⟩) rfl (by decide) (ci := 3) rfl rfl rfl rfl (Nat.le_of_ble_eq_true rfl) dX3_complain_54 ⟨by decide, by decide⟩ (fun E hx => gx_out (Y := Y) (fun x h => (hex x h).elim) hlk ⟨rfl, zz_xm (fun z => z.elim) (fun z => z.elim) (fun z => by omega) hx⟩ (by decide)) (fun q10 q10r => ?_)
      obtain ⟨q10a, q10b⟩ := id q10r
      refine gd_istore_n hC dX3_complain_57 rfl (by decide) (lv' := [(3, zz_v (S 0 9)), (0, .ref (a 0)), (1, zz_v x), (2, zz_v y)]) rfl ?_
      refine gd_aload_n hC dX3_complain_58 rfl (j := 1) rfl ?_
      refine gd_getR hC w3 hK (ci := 3) rfl (by decide) rfl 8 (by decide) (j := 12) rfl f36 rfl dX3_complain_59 ?_
      refine gd_iload_n hC dX3_complain_62 rfl (j := 0) rfl ?_
      refine gd_aald hC hK (t := 3) (Cn := RX2) (j := (S 0 9).toNat) (q := 61 + (S 0 9).toNat) rfl (by decide) rfl (by omega) (by omega) (by decide) rfl dX3_complain_63 ?_
      refine gd_iload_n hC dX3_complain_64 rfl (j := 2) rfl ?_
      have hpe := ipe (S 0 9).toNat (by omega)
      refine gd_callVN (As := [zz_v x]) (rest := []) hC hF (fun hR => c_X2_join l hl9 N0 G Y a (zz_u (zz_bg S (S 0 9).toNat y) 0 9 (S 0 9 + 1)) (S 0 9).toNat x (by omega) (by omega) (by rw [((zz_u_ne _ _ (by omega)).trans ((zz_u_ne _ _ (by omega)).trans ((zz_u_ne _ _ (by omega)).trans ((zz_u_ne _ _ (by omega)).trans ((zz_u_ne _ _ (by omega)).trans (zz_u_ne _ _ (by omega)))))) : (zz_u (zz_bg S (S 0 9).toNat y) 0 9 (S 0 9 + 1)) (61 + (S 0 9).toNat) (3) = S (61 + (S 0 9).toNat) 3)]; omega)) (cwV 1 hts gX3_complain_X2_join rfl rfl rfl (by decide +kernel) ⟨by decide, by decide⟩) (zz_cmp (by omega)) (by omega) (ci := 2) rfl rfl rfl rfl (Nat.le_of_ble_eq_true rfl) dX3_complain_65 ⟨by decide, by decide⟩ (fun E hx => zz_xn hx) (fun q11 => ?_)
      refine gd_iload_n hC dX3_complain_68 rfl (j := 0) rfl ?_
      exact gd_ireturn hC hr rfl hlk dX3_complain_69 (by decide) ⟨_, ⟨by omega, by omega⟩, rfl, (by unfold zz_cS; first | (rw [if_pos (by omega)]; rfl) | (rw [if_neg (by omega)]; rfl)), (by first | rfl | omega), (by omega)⟩
  · skip
    exact gd_throw3 (text := "the complaint is barred") hC hl9 hF (hts _ (by decide +kernel)) (hts _ (by decide +kernel)) (by decide +kernel) t3 dX3_complain_31 dX3_complain_34 dX3_complain_35 dX3_complain_37 dX3_complain_40 hex (by decide) (by decide) (by decide) (by decide) hlk rfl (by omega) (by decide)

abbrev rm_X3_ask : Room := { frames := 7, cells := 2, slots := 12, locals := 103 }
set_option maxHeartbeats 4000000 in
set_option maxRecDepth 100000 in
theorem c_X3_ask (l : Launch) (hl9 : l.stackTraces = false) (N0 : Nat) (G : zz_G) (Y : zz_Y) (a : Nat → Nat) (S : zz_S) (x : Int) (hx : zz_R x) (hI : zz_IC S) : CtR l yX3_ask wsX3_ask rm_X3_ask 2 [.ref (a 0), zz_v x] N0 G Y a S (S (13 + (S (61 + x.toNat) 0).toNat) 0) (zz_u (zz_u (S) (61 + x.toNat) (4) (1)) (61 + x.toNat) (5) (S 0 10)) ((0 ≤ x ∧ x < S 0 9) ∧ S (61 + x.toNat) 1 = 0 ∧ S (61 + x.toNat) 4 = 0) (¬ (0 ≤ x ∧ x < S 0 9)) (False) ((0 ≤ x ∧ x < S 0 9) ∧ ¬ (S (61 + x.toNat) 1 = 0 ∧ S (61 + x.toNat) 4 = 0)) := by
  refine Ct_.of (cc := cX3_ask) (maxL := 3) (ret := (some .int)) (by decide) rfl (Nat.le_of_ble_eq_true rfl) ?_
  intro p e s m args below meth c hC hts hr hlk hex hF
  have hK := hF.2.1
  have w0 : ∀ w ∈ u_ws RX0 TX0 9, w.before args s = true := fun w h => hts w (List.mem_cons_of_mem _ (List.mem_append_left _ (List.mem_append_left _ (List.mem_append_right _ h))))
  have w2 : ∀ w ∈ u_ws RX2 TX2 8, w.before args s = true := fun w h => hts w (List.mem_cons_of_mem _ (List.mem_append_left _ (List.mem_append_left _ (List.mem_append_left _ (List.mem_append_right _ h)))))
  have w3 : ∀ w ∈ u_ws RX3 TX3 11, w.before args s = true := fun w h => hts w (List.mem_cons_of_mem _ (List.mem_append_left _ (List.mem_append_left _ (List.mem_append_left _ (List.mem_append_left _ (List.mem_append_right _ h))))))
  have f29 : (Cond.fieldLink RX3 29 "Grievancehall" "acts" "[LGrievancehall$Act;").before args s = true := hts _ (by decide +kernel)
  have f36 : (Cond.fieldLink RX3 36 "Grievancehall" "complaints" "[LGrievancehall$Complaint;").before args s = true := hts _ (by decide +kernel)
  have f68 : (Cond.fieldLink RX3 68 "Grievancehall" "today" "I").before args s = true := hts _ (by decide +kernel)
  have f127 : (Cond.fieldLink RX3 127 "Grievancehall" "complaintCount" "I").before args s = true := hts _ (by decide +kernel)
  have f130 : (Cond.fieldLink RX3 130 "Grievancehall$Complaint" "state" "I").before args s = true := hts _ (by decide +kernel)
  have f133 : (Cond.fieldLink RX3 133 "Grievancehall$Complaint" "file" "I").before args s = true := hts _ (by decide +kernel)
  have f138 : (Cond.fieldLink RX3 138 "Grievancehall$Complaint" "askedDay" "I").before args s = true := hts _ (by decide +kernel)
  have f141 : (Cond.fieldLink RX3 141 "Grievancehall$Complaint" "actNumber" "I").before args s = true := hts _ (by decide +kernel)
  have f144 : (Cond.fieldLink RX3 144 "Grievancehall$Act" "owner" "I").before args s = true := hts _ (by decide +kernel)
  have t3 : ∀ w ∈ (vx_atS RX3 56 "java/lang/IllegalStateException" ["java/lang/RuntimeException", "java/lang/Exception"]).filter goodWord, w.before args s = true := fun w h => hts w (List.mem_cons_of_mem _ (List.mem_append_left _ (List.mem_append_right _ h)))
  refine gd_lveq (lv' := [(0, .ref (a 0)), (1, zz_v x)]) rfl ?_
  obtain ⟨itc, ioc, iac, icc, itd, idc, ilc, iab, idv, iow, ikd, idy, ims, ihm, ict, iwv, irm, ipl, ian, ist, idl, ipe, ifi, ias, ihe, ifn, iod, ity⟩ := id hI
  obtain ⟨hx1, hx2⟩ := id hx
  refine gd_iload_n hC dX3_ask_0 rfl (j := 1) rfl ?_
  refine gd_aload_n hC dX3_ask_1 rfl (j := 0) rfl ?_
  refine gd_getI hC w3 hK (ci := 3) rfl (by decide) rfl 9 (by decide) rfl f127 rfl dX3_ask_2 (fun r1 => ?_)
  obtain ⟨r1a, r1b⟩ := id r1
  refine gd_callSN (As := [zz_v x, zz_v (S 0 9)]) (rest := []) hC hF (fun hR => c_X3_needNumber l hl9 N0 G Y a (S) x (S 0 9) ⟨by omega, by omega⟩ ⟨by omega, by omega⟩) (va_cwS 2 hts gX3_ask_X3_needNumber rfl rfl rfl (by decide +kernel) ⟨by decide, by decide⟩) rfl rfl (Nat.le_of_ble_eq_true rfl) dX3_ask_5 ⟨by decide, by decide⟩ (fun E hx => gx_out (Y := Y) (fun x h => (hex x h).elim) hlk ⟨rfl, zz_xm (fun z => by omega) (fun z => z.elim) (fun z => z.elim) hx⟩ (by decide)) (fun q2 => ?_)
  refine gd_aload_n hC dX3_ask_8 rfl (j := 0) rfl ?_
  refine gd_getR hC w3 hK (ci := 3) rfl (by decide) rfl 8 (by decide) (j := 12) rfl f36 rfl dX3_ask_9 ?_
  refine gd_iload_n hC dX3_ask_12 rfl (j := 1) rfl ?_
  refine gd_aald hC hK (t := 3) (Cn := RX2) (j := x.toNat) (q := 61 + x.toNat) rfl (by decide) rfl (by omega) (by omega) (by decide) rfl dX3_ask_13 ?_
  have hian := ian x.toNat (by omega)
  refine gd_astore_n hC dX3_ask_14 rfl (by decide) (lv' := [(2, .ref (a (61 + x.toNat))), (0, .ref (a 0)), (1, zz_v x)]) rfl ?_
  refine gd_aload_n hC dX3_ask_15 rfl (j := 0) rfl ?_
  refine gd_getI hC w2 hK (ci := 2) (zz_cmp (by omega)) (by omega) rfl 1 (by decide) rfl f130 rfl dX3_ask_16 (fun r3 => ?_)
  obtain ⟨r3a, r3b⟩ := id r3
  refine gd_if_ne hC dX3_ask_19 (tgt := 29) (by decide) ⟨by omega, by omega⟩ (fun c4 => ?_) (fun c4 => ?_)
  · skip
    exact gd_throw3 (text := "not open, or asked for before") hC hl9 hF (hts _ (by decide +kernel)) (hts _ (by decide +kernel)) (by decide +kernel) t3 dX3_ask_29 dX3_ask_32 dX3_ask_33 dX3_ask_35 dX3_ask_38 hex (by decide) (by decide) (by decide) (by decide) hlk rfl (by omega) (by decide)
  · skip
    refine gd_aload_n hC dX3_ask_22 rfl (j := 0) rfl ?_
    refine gd_getI hC w2 hK (ci := 2) (zz_cmp (by omega)) (by omega) rfl 4 (by decide) rfl f133 rfl dX3_ask_23 (fun r5 => ?_)
    obtain ⟨r5a, r5b⟩ := id r5
    refine gd_if_eq hC dX3_ask_26 (tgt := 39) (by decide) ⟨by omega, by omega⟩ (fun c6 => ?_) (fun c6 => ?_)
    · skip
      refine gd_aload_n hC dX3_ask_39 rfl (j := 0) rfl ?_
      refine gd_iconst hC dX3_ask_40 ?_
      refine gd_put hC w2 tyX2 tyX2_ok nmX2 hK (ci := 2) (zz_cmp (by omega)) (by omega) rfl 4 (by decide) rfl f133 rfl rfl (ty := .int) (by decide +kernel) rfl rfl ⟨by decide, by decide⟩ dX3_ask_41 ?_
      refine gd_aload_n hC dX3_ask_44 rfl (j := 0) rfl ?_
      refine gd_aload_n hC dX3_ask_45 rfl (j := 1) rfl ?_
      refine gd_getI hC w3 hK (ci := 3) rfl (by decide) rfl 10 (by decide) rfl f68 rfl dX3_ask_46 (fun r7 => ?_)
      obtain ⟨r7a, r7b⟩ := id r7
      refine gd_top (y := S 0 10) (zz_u_ne _ _ (by omega)) ?_
      rw [(zz_u_ne _ _ (by omega) : (zz_u (S) (61 + x.toNat) (4) (1)) (0) (10) = S 0 10)] at r7a r7b
      refine gd_put hC w2 tyX2 tyX2_ok nmX2 hK (ci := 2) (zz_cmp (by omega)) (by omega) rfl 5 (by decide) rfl f138 rfl rfl (ty := .int) (by decide +kernel) rfl rfl ⟨by omega, by omega⟩ dX3_ask_49 ?_
      refine gd_aload_n hC dX3_ask_52 rfl (j := 1) rfl ?_
      refine gd_getR hC w3 hK (ci := 3) rfl (by decide) rfl 6 (by decide) (j := 11) rfl f29 rfl dX3_ask_53 ?_
      refine gd_aload_n hC dX3_ask_56 rfl (j := 0) rfl ?_
      refine gd_getI hC w2 hK (ci := 2) (zz_cmp (by omega)) (by omega) rfl 0 (by decide) rfl f141 rfl dX3_ask_57 (fun r8 => ?_)
      obtain ⟨r8a, r8b⟩ := id r8
      refine gd_top (y := S (61 + x.toNat) 0) ((zz_u_ne _ _ (by omega)).trans (zz_u_ne _ _ (by omega))) ?_
      rw [((zz_u_ne _ _ (by omega)).trans (zz_u_ne _ _ (by omega)) : (zz_u (zz_u (S) (61 + x.toNat) (4) (1)) (61 + x.toNat) (5) (S 0 10)) (61 + x.toNat) (0) = S (61 + x.toNat) 0)] at r8a r8b
      refine gd_aald hC hK (t := 2) (Cn := RX0) (j := (S (61 + x.toNat) 0).toNat) (q := 13 + (S (61 + x.toNat) 0).toNat) rfl (by decide) rfl (by omega) (by omega) (by decide) rfl dX3_ask_60 ?_
      refine gd_getI hC w0 hK (ci := 0) (zz_act (by omega)) (by omega) rfl 0 (by decide) rfl f144 rfl dX3_ask_61 (fun r9 => ?_)
      obtain ⟨r9a, r9b⟩ := id r9
      refine gd_top (y := S (13 + (S (61 + x.toNat) 0).toNat) 0) ((zz_u_ne _ _ (by omega)).trans (zz_u_ne _ _ (by omega))) ?_
      rw [((zz_u_ne _ _ (by omega)).trans (zz_u_ne _ _ (by omega)) : (zz_u (zz_u (S) (61 + x.toNat) (4) (1)) (61 + x.toNat) (5) (S 0 10)) (13 + (S (61 + x.toNat) 0).toNat) (0) = S (13 + (S (61 + x.toNat) 0).toNat) 0)] at r9a r9b
      exact gd_ireturn hC hr rfl hlk dX3_ask_64 (by decide) ⟨_, ⟨by omega, by omega⟩, rfl, (by first | rfl | ((repeat' split) <;> first | rfl | omega)), (by first | rfl | omega), (by omega)⟩
    · skip
      exact gd_throw3 (text := "not open, or asked for before") hC hl9 hF (hts _ (by decide +kernel)) (hts _ (by decide +kernel)) (by decide +kernel) t3 dX3_ask_29 dX3_ask_32 dX3_ask_33 dX3_ask_35 dX3_ask_38 hex (by decide) (by decide) (by decide) (by decide) hlk rfl (by omega) (by decide)

abbrev rm_X3_answer : Room := { frames := 7, cells := 2, slots := 12, locals := 103 }
set_option maxHeartbeats 4000000 in
set_option maxRecDepth 100000 in
theorem c_X3_answer (l : Launch) (hl9 : l.stackTraces = false) (N0 : Nat) (G : zz_G) (Y : zz_Y) (a : Nat → Nat) (S : zz_S) (x : Int) (hx : zz_R x) (hI : zz_IC S) : CtR l yX3_answer wsX3_answer rm_X3_answer 2 [.ref (a 0), zz_v x] N0 G Y a S (S 0 10 - S (61 + x.toNat) 5) (zz_u (S) (61 + x.toNat) (4) (2)) ((0 ≤ x ∧ x < S 0 9) ∧ S (61 + x.toNat) 4 = 1) (¬ (0 ≤ x ∧ x < S 0 9)) (False) ((0 ≤ x ∧ x < S 0 9) ∧ ¬ S (61 + x.toNat) 4 = 1) := by
  refine Ct_.of (cc := cX3_answer) (maxL := 3) (ret := (some .int)) (by decide) rfl (Nat.le_of_ble_eq_true rfl) ?_
  intro p e s m args below meth c hC hts hr hlk hex hF
  have hK := hF.2.1
  have w2 : ∀ w ∈ u_ws RX2 TX2 8, w.before args s = true := fun w h => hts w (List.mem_cons_of_mem _ (List.mem_append_left _ (List.mem_append_left _ (List.mem_append_right _ h))))
  have w3 : ∀ w ∈ u_ws RX3 TX3 11, w.before args s = true := fun w h => hts w (List.mem_cons_of_mem _ (List.mem_append_left _ (List.mem_append_left _ (List.mem_append_left _ (List.mem_append_right _ h)))))
  have f36 : (Cond.fieldLink RX3 36 "Grievancehall" "complaints" "[LGrievancehall$Complaint;").before args s = true := hts _ (by decide +kernel)
  have f68 : (Cond.fieldLink RX3 68 "Grievancehall" "today" "I").before args s = true := hts _ (by decide +kernel)
  have f127 : (Cond.fieldLink RX3 127 "Grievancehall" "complaintCount" "I").before args s = true := hts _ (by decide +kernel)
  have f133 : (Cond.fieldLink RX3 133 "Grievancehall$Complaint" "file" "I").before args s = true := hts _ (by decide +kernel)
  have f138 : (Cond.fieldLink RX3 138 "Grievancehall$Complaint" "askedDay" "I").before args s = true := hts _ (by decide +kernel)
  have t3 : ∀ w ∈ (vx_atS RX3 56 "java/lang/IllegalStateException" ["java/lang/RuntimeException", "java/lang/Exception"]).filter goodWord, w.before args s = true := fun w h => hts w (List.mem_cons_of_mem _ (List.mem_append_left _ (List.mem_append_right _ h)))
  refine gd_lveq (lv' := [(0, .ref (a 0)), (1, zz_v x)]) rfl ?_
  obtain ⟨itc, ioc, iac, icc, itd, idc, ilc, iab, idv, iow, ikd, idy, ims, ihm, ict, iwv, irm, ipl, ian, ist, idl, ipe, ifi, ias, ihe, ifn, iod, ity⟩ := id hI
  obtain ⟨hx1, hx2⟩ := id hx
  refine gd_iload_n hC dX3_answer_0 rfl (j := 1) rfl ?_
  refine gd_aload_n hC dX3_answer_1 rfl (j := 0) rfl ?_
  refine gd_getI hC w3 hK (ci := 3) rfl (by decide) rfl 9 (by decide) rfl f127 rfl dX3_answer_2 (fun r1 => ?_)
  obtain ⟨r1a, r1b⟩ := id r1
  refine gd_callSN (As := [zz_v x, zz_v (S 0 9)]) (rest := []) hC hF (fun hR => c_X3_needNumber l hl9 N0 G Y a (S) x (S 0 9) ⟨by omega, by omega⟩ ⟨by omega, by omega⟩) (va_cwS 2 hts gX3_answer_X3_needNumber rfl rfl rfl (by decide +kernel) ⟨by decide, by decide⟩) rfl rfl (Nat.le_of_ble_eq_true rfl) dX3_answer_5 ⟨by decide, by decide⟩ (fun E hx => gx_out (Y := Y) (fun x h => (hex x h).elim) hlk ⟨rfl, zz_xm (fun z => by omega) (fun z => z.elim) (fun z => z.elim) hx⟩ (by decide)) (fun q2 => ?_)
  refine gd_aload_n hC dX3_answer_8 rfl (j := 0) rfl ?_
  refine gd_getR hC w3 hK (ci := 3) rfl (by decide) rfl 8 (by decide) (j := 12) rfl f36 rfl dX3_answer_9 ?_
  refine gd_iload_n hC dX3_answer_12 rfl (j := 1) rfl ?_
  refine gd_aald hC hK (t := 3) (Cn := RX2) (j := x.toNat) (q := 61 + x.toNat) rfl (by decide) rfl (by omega) (by omega) (by decide) rfl dX3_answer_13 ?_
  have hias := ias x.toNat (by omega)
  refine gd_astore_n hC dX3_answer_14 rfl (by decide) (lv' := [(2, .ref (a (61 + x.toNat))), (0, .ref (a 0)), (1, zz_v x)]) rfl ?_
  refine gd_aload_n hC dX3_answer_15 rfl (j := 0) rfl ?_
  refine gd_getI hC w2 hK (ci := 2) (zz_cmp (by omega)) (by omega) rfl 4 (by decide) rfl f133 rfl dX3_answer_16 (fun r3 => ?_)
  obtain ⟨r3a, r3b⟩ := id r3
  refine gd_iconst hC dX3_answer_19 ?_
  refine gd_icmp_eq hC dX3_answer_20 (tgt := 33) (by decide) ⟨by omega, by omega⟩ ⟨by decide, by decide⟩ (fun c4 => ?_) (fun c4 => ?_)
  · skip
    refine gd_aload_n hC dX3_answer_33 rfl (j := 0) rfl ?_
    refine gd_iconst hC dX3_answer_34 ?_
    refine gd_put hC w2 tyX2 tyX2_ok nmX2 hK (ci := 2) (zz_cmp (by omega)) (by omega) rfl 4 (by decide) rfl f133 rfl rfl (ty := .int) (by decide +kernel) rfl rfl ⟨by decide, by decide⟩ dX3_answer_35 ?_
    refine gd_aload_n hC dX3_answer_38 rfl (j := 1) rfl ?_
    refine gd_getI hC w3 hK (ci := 3) rfl (by decide) rfl 10 (by decide) rfl f68 rfl dX3_answer_39 (fun r5 => ?_)
    obtain ⟨r5a, r5b⟩ := id r5
    refine gd_top (y := S 0 10) (zz_u_ne _ _ (by omega)) ?_
    rw [(zz_u_ne _ _ (by omega) : (zz_u (S) (61 + x.toNat) (4) (2)) (0) (10) = S 0 10)] at r5a r5b
    refine gd_aload_n hC dX3_answer_42 rfl (j := 0) rfl ?_
    refine gd_getI hC w2 hK (ci := 2) (zz_cmp (by omega)) (by omega) rfl 5 (by decide) rfl f138 rfl dX3_answer_43 (fun r6 => ?_)
    obtain ⟨r6a, r6b⟩ := id r6
    refine gd_top (y := S (61 + x.toNat) 5) (zz_u_ne _ _ (by omega)) ?_
    rw [(zz_u_ne _ _ (by omega) : (zz_u (S) (61 + x.toNat) (4) (2)) (61 + x.toNat) (5) = S (61 + x.toNat) 5)] at r6a r6b
    refine gd_isub hC dX3_answer_46 ?_
    exact gd_ireturn hC hr rfl hlk dX3_answer_47 (by decide) ⟨_, ⟨by omega, by omega⟩, rfl, (by first | rfl | ((repeat' split) <;> first | rfl | omega)), (by first | rfl | omega), (by omega)⟩
  · skip
    exact gd_throw3 (text := "no file is owed") hC hl9 hF (hts _ (by decide +kernel)) (hts _ (by decide +kernel)) (by decide +kernel) t3 dX3_answer_23 dX3_answer_26 dX3_answer_27 dX3_answer_29 dX3_answer_32 hex (by decide) (by decide) (by decide) (by decide) hlk rfl (by omega) (by decide)

abbrev rm_X3_hear : Room := { frames := 7, cells := 2, slots := 12, locals := 103 }
set_option maxHeartbeats 4000000 in
set_option maxRecDepth 100000 in
theorem c_X3_hear (l : Launch) (hl9 : l.stackTraces = false) (N0 : Nat) (G : zz_G) (Y : zz_Y) (a : Nat → Nat) (S : zz_S) (x : Int) (hx : zz_R x) (hI : zz_IC S) : CtN l yX3_hear wsX3_hear rm_X3_hear 2 [.ref (a 0), zz_v x] N0 G Y a S (zz_u (S) (61 + x.toNat) (6) (1)) ((0 ≤ x ∧ x < S 0 9) ∧ S (61 + x.toNat) 1 = 0 ∧ S (61 + x.toNat) 4 = 2 ∧ S (61 + x.toNat) 6 = 0) (¬ (0 ≤ x ∧ x < S 0 9)) (False) ((0 ≤ x ∧ x < S 0 9) ∧ ¬ (S (61 + x.toNat) 1 = 0 ∧ S (61 + x.toNat) 4 = 2 ∧ S (61 + x.toNat) 6 = 0)) := by
  refine Ct_.of (cc := cX3_hear) (maxL := 3) (ret := none) (by decide) rfl (Nat.le_of_ble_eq_true rfl) ?_
  intro p e s m args below meth c hC hts hr hlk hex hF
  have hK := hF.2.1
  have w2 : ∀ w ∈ u_ws RX2 TX2 8, w.before args s = true := fun w h => hts w (List.mem_cons_of_mem _ (List.mem_append_left _ (List.mem_append_left _ (List.mem_append_right _ h))))
  have w3 : ∀ w ∈ u_ws RX3 TX3 11, w.before args s = true := fun w h => hts w (List.mem_cons_of_mem _ (List.mem_append_left _ (List.mem_append_left _ (List.mem_append_left _ (List.mem_append_right _ h)))))
  have f36 : (Cond.fieldLink RX3 36 "Grievancehall" "complaints" "[LGrievancehall$Complaint;").before args s = true := hts _ (by decide +kernel)
  have f127 : (Cond.fieldLink RX3 127 "Grievancehall" "complaintCount" "I").before args s = true := hts _ (by decide +kernel)
  have f130 : (Cond.fieldLink RX3 130 "Grievancehall$Complaint" "state" "I").before args s = true := hts _ (by decide +kernel)
  have f133 : (Cond.fieldLink RX3 133 "Grievancehall$Complaint" "file" "I").before args s = true := hts _ (by decide +kernel)
  have f149 : (Cond.fieldLink RX3 149 "Grievancehall$Complaint" "officerHeard" "Z").before args s = true := hts _ (by decide +kernel)
  have t3 : ∀ w ∈ (vx_atS RX3 56 "java/lang/IllegalStateException" ["java/lang/RuntimeException", "java/lang/Exception"]).filter goodWord, w.before args s = true := fun w h => hts w (List.mem_cons_of_mem _ (List.mem_append_left _ (List.mem_append_right _ h)))
  refine gd_lveq (lv' := [(0, .ref (a 0)), (1, zz_v x)]) rfl ?_
  obtain ⟨itc, ioc, iac, icc, itd, idc, ilc, iab, idv, iow, ikd, idy, ims, ihm, ict, iwv, irm, ipl, ian, ist, idl, ipe, ifi, ias, ihe, ifn, iod, ity⟩ := id hI
  obtain ⟨hx1, hx2⟩ := id hx
  refine gd_iload_n hC dX3_hear_0 rfl (j := 1) rfl ?_
  refine gd_aload_n hC dX3_hear_1 rfl (j := 0) rfl ?_
  refine gd_getI hC w3 hK (ci := 3) rfl (by decide) rfl 9 (by decide) rfl f127 rfl dX3_hear_2 (fun r1 => ?_)
  obtain ⟨r1a, r1b⟩ := id r1
  refine gd_callSN (As := [zz_v x, zz_v (S 0 9)]) (rest := []) hC hF (fun hR => c_X3_needNumber l hl9 N0 G Y a (S) x (S 0 9) ⟨by omega, by omega⟩ ⟨by omega, by omega⟩) (va_cwS 2 hts gX3_hear_X3_needNumber rfl rfl rfl (by decide +kernel) ⟨by decide, by decide⟩) rfl rfl (Nat.le_of_ble_eq_true rfl) dX3_hear_5 ⟨by decide, by decide⟩ (fun E hx => gx_out (Y := Y) (fun x h => (hex x h).elim) hlk ⟨rfl, zz_xm (fun z => by omega) (fun z => z.elim) (fun z => z.elim) hx⟩ (by decide)) (fun q2 => ?_)
  refine gd_aload_n hC dX3_hear_8 rfl (j := 0) rfl ?_
  refine gd_getR hC w3 hK (ci := 3) rfl (by decide) rfl 8 (by decide) (j := 12) rfl f36 rfl dX3_hear_9 ?_
  refine gd_iload_n hC dX3_hear_12 rfl (j := 1) rfl ?_
  refine gd_aald hC hK (t := 3) (Cn := RX2) (j := x.toNat) (q := 61 + x.toNat) rfl (by decide) rfl (by omega) (by omega) (by decide) rfl dX3_hear_13 ?_
  refine gd_astore_n hC dX3_hear_14 rfl (by decide) (lv' := [(2, .ref (a (61 + x.toNat))), (0, .ref (a 0)), (1, zz_v x)]) rfl ?_
  refine gd_aload_n hC dX3_hear_15 rfl (j := 0) rfl ?_
  refine gd_getI hC w2 hK (ci := 2) (zz_cmp (by omega)) (by omega) rfl 1 (by decide) rfl f130 rfl dX3_hear_16 (fun r3 => ?_)
  obtain ⟨r3a, r3b⟩ := id r3
  refine gd_if_ne hC dX3_hear_19 (tgt := 37) (by decide) ⟨by omega, by omega⟩ (fun c4 => ?_) (fun c4 => ?_)
  · skip
    exact gd_throw3 (text := "not open, not answered, or heard before") hC hl9 hF (hts _ (by decide +kernel)) (hts _ (by decide +kernel)) (by decide +kernel) t3 dX3_hear_37 dX3_hear_40 dX3_hear_41 dX3_hear_43 dX3_hear_46 hex (by decide) (by decide) (by decide) (by decide) hlk rfl (by omega) (by decide)
  · skip
    refine gd_aload_n hC dX3_hear_22 rfl (j := 0) rfl ?_
    refine gd_getI hC w2 hK (ci := 2) (zz_cmp (by omega)) (by omega) rfl 4 (by decide) rfl f133 rfl dX3_hear_23 (fun r5 => ?_)
    obtain ⟨r5a, r5b⟩ := id r5
    refine gd_iconst hC dX3_hear_26 ?_
    refine gd_icmp_ne hC dX3_hear_27 (tgt := 37) (by decide) ⟨by omega, by omega⟩ ⟨by decide, by decide⟩ (fun c6 => ?_) (fun c6 => ?_)
    · skip
      exact gd_throw3 (text := "not open, not answered, or heard before") hC hl9 hF (hts _ (by decide +kernel)) (hts _ (by decide +kernel)) (by decide +kernel) t3 dX3_hear_37 dX3_hear_40 dX3_hear_41 dX3_hear_43 dX3_hear_46 hex (by decide) (by decide) (by decide) (by decide) hlk rfl (by omega) (by decide)
    · skip
      refine gd_aload_n hC dX3_hear_30 rfl (j := 0) rfl ?_
      refine gd_getI hC w2 hK (ci := 2) (zz_cmp (by omega)) (by omega) rfl 6 (by decide) rfl f149 rfl dX3_hear_31 (fun r7 => ?_)
      obtain ⟨r7a, r7b⟩ := id r7
      refine gd_if_eq hC dX3_hear_34 (tgt := 47) (by decide) ⟨by omega, by omega⟩ (fun c8 => ?_) (fun c8 => ?_)
      · skip
        refine gd_aload_n hC dX3_hear_47 rfl (j := 0) rfl ?_
        refine gd_iconst hC dX3_hear_48 ?_
        refine gd_put hC w2 tyX2 tyX2_ok nmX2 hK (ci := 2) (zz_cmp (by omega)) (by omega) rfl 6 (by decide) rfl f149 rfl rfl (ty := .boolean) (by decide +kernel) (zz_nb (by omega)) (zz_fb (by omega)) ⟨by decide, by decide⟩ dX3_hear_49 ?_
        exact gd_return hC hr hlk dX3_hear_52 (by decide) ⟨rfl, (by first | rfl | ((repeat' split) <;> first | rfl | omega)), (by omega)⟩
      · skip
        exact gd_throw3 (text := "not open, not answered, or heard before") hC hl9 hF (hts _ (by decide +kernel)) (hts _ (by decide +kernel)) (by decide +kernel) t3 dX3_hear_37 dX3_hear_40 dX3_hear_41 dX3_hear_43 dX3_hear_46 hex (by decide) (by decide) (by decide) (by decide) hlk rfl (by omega) (by decide)

abbrev rm_X3_find : Room := { frames := 7, cells := 2, slots := 12, locals := 103 }
set_option maxHeartbeats 4000000 in
set_option maxRecDepth 100000 in
theorem c_X3_find (l : Launch) (hl9 : l.stackTraces = false) (N0 : Nat) (G : zz_G) (Y : zz_Y) (a : Nat → Nat) (S : zz_S) (x : Int) (hx : zz_R x) (hI : zz_IC S) : CtR l yX3_find wsX3_find rm_X3_find 2 [.ref (a 0), zz_v x] N0 G Y a S (zz_ft S (S (61 + x.toNat) 0).toNat) (zz_u (zz_u (S) (61 + x.toNat) (7) ((zz_ft S (S (61 + x.toNat) 0).toNat))) (61 + x.toNat) (1) (1)) ((0 ≤ x ∧ x < S 0 9) ∧ S (61 + x.toNat) 1 = 0 ∧ ¬ S (61 + x.toNat) 6 = 0) (¬ (0 ≤ x ∧ x < S 0 9)) (False) ((0 ≤ x ∧ x < S 0 9) ∧ ¬ (S (61 + x.toNat) 1 = 0 ∧ ¬ S (61 + x.toNat) 6 = 0)) := by
  refine Ct_.of (cc := cX3_find) (maxL := 3) (ret := (some .int)) (by decide) rfl (Nat.le_of_ble_eq_true rfl) ?_
  intro p e s m args below meth c hC hts hr hlk hex hF
  have hK := hF.2.1
  have w2 : ∀ w ∈ u_ws RX2 TX2 8, w.before args s = true := fun w h => hts w (List.mem_cons_of_mem _ (List.mem_append_left _ (List.mem_append_left _ (List.mem_append_left _ (List.mem_append_left _ (List.mem_append_right _ h))))))
  have w3 : ∀ w ∈ u_ws RX3 TX3 11, w.before args s = true := fun w h => hts w (List.mem_cons_of_mem _ (List.mem_append_left _ (List.mem_append_left _ (List.mem_append_left _ (List.mem_append_left _ (List.mem_append_left _ (List.mem_append_right _ h)))))))
  have f36 : (Cond.fieldLink RX3 36 "Grievancehall" "complaints" "[LGrievancehall$Complaint;").before args s = true := hts _ (by decide +kernel)
  have f127 : (Cond.fieldLink RX3 127 "Grievancehall" "complaintCount" "I").before args s = true := hts _ (by decide +kernel)
  have f130 : (Cond.fieldLink RX3 130 "Grievancehall$Complaint" "state" "I").before args s = true := hts _ (by decide +kernel)
  have f141 : (Cond.fieldLink RX3 141 "Grievancehall$Complaint" "actNumber" "I").before args s = true := hts _ (by decide +kernel)
  have f149 : (Cond.fieldLink RX3 149 "Grievancehall$Complaint" "officerHeard" "Z").before args s = true := hts _ (by decide +kernel)
  have f159 : (Cond.fieldLink RX3 159 "Grievancehall$Complaint" "finding" "I").before args s = true := hts _ (by decide +kernel)
  have t3 : ∀ w ∈ (vx_atS RX3 56 "java/lang/IllegalStateException" ["java/lang/RuntimeException", "java/lang/Exception"]).filter goodWord, w.before args s = true := fun w h => hts w (List.mem_cons_of_mem _ (List.mem_append_left _ (List.mem_append_right _ h)))
  refine gd_lveq (lv' := [(0, .ref (a 0)), (1, zz_v x)]) rfl ?_
  obtain ⟨itc, ioc, iac, icc, itd, idc, ilc, iab, idv, iow, ikd, idy, ims, ihm, ict, iwv, irm, ipl, ian, ist, idl, ipe, ifi, ias, ihe, ifn, iod, ity⟩ := id hI
  obtain ⟨hx1, hx2⟩ := id hx
  refine gd_iload_n hC dX3_find_0 rfl (j := 1) rfl ?_
  refine gd_aload_n hC dX3_find_1 rfl (j := 0) rfl ?_
  refine gd_getI hC w3 hK (ci := 3) rfl (by decide) rfl 9 (by decide) rfl f127 rfl dX3_find_2 (fun r1 => ?_)
  obtain ⟨r1a, r1b⟩ := id r1
  refine gd_callSN (As := [zz_v x, zz_v (S 0 9)]) (rest := []) hC hF (fun hR => c_X3_needNumber l hl9 N0 G Y a (S) x (S 0 9) ⟨by omega, by omega⟩ ⟨by omega, by omega⟩) (va_cwS 2 hts gX3_find_X3_needNumber rfl rfl rfl (by decide +kernel) ⟨by decide, by decide⟩) rfl rfl (Nat.le_of_ble_eq_true rfl) dX3_find_5 ⟨by decide, by decide⟩ (fun E hx => gx_out (Y := Y) (fun x h => (hex x h).elim) hlk ⟨rfl, zz_xm (fun z => by omega) (fun z => z.elim) (fun z => z.elim) hx⟩ (by decide)) (fun q2 => ?_)
  refine gd_aload_n hC dX3_find_8 rfl (j := 0) rfl ?_
  refine gd_getR hC w3 hK (ci := 3) rfl (by decide) rfl 8 (by decide) (j := 12) rfl f36 rfl dX3_find_9 ?_
  refine gd_iload_n hC dX3_find_12 rfl (j := 1) rfl ?_
  refine gd_aald hC hK (t := 3) (Cn := RX2) (j := x.toNat) (q := 61 + x.toNat) rfl (by decide) rfl (by omega) (by omega) (by decide) rfl dX3_find_13 ?_
  have hian := ian x.toNat (by omega)
  refine gd_astore_n hC dX3_find_14 rfl (by decide) (lv' := [(2, .ref (a (61 + x.toNat))), (0, .ref (a 0)), (1, zz_v x)]) rfl ?_
  refine gd_aload_n hC dX3_find_15 rfl (j := 0) rfl ?_
  refine gd_getI hC w2 hK (ci := 2) (zz_cmp (by omega)) (by omega) rfl 1 (by decide) rfl f130 rfl dX3_find_16 (fun r3 => ?_)
  obtain ⟨r3a, r3b⟩ := id r3
  refine gd_if_ne hC dX3_find_19 (tgt := 29) (by decide) ⟨by omega, by omega⟩ (fun c4 => ?_) (fun c4 => ?_)
  · skip
    exact gd_throw3 (text := "not open, or the officer was not heard") hC hl9 hF (hts _ (by decide +kernel)) (hts _ (by decide +kernel)) (by decide +kernel) t3 dX3_find_29 dX3_find_32 dX3_find_33 dX3_find_35 dX3_find_38 hex (by decide) (by decide) (by decide) (by decide) hlk rfl (by omega) (by decide)
  · skip
    refine gd_aload_n hC dX3_find_22 rfl (j := 0) rfl ?_
    refine gd_getI hC w2 hK (ci := 2) (zz_cmp (by omega)) (by omega) rfl 6 (by decide) rfl f149 rfl dX3_find_23 (fun r5 => ?_)
    obtain ⟨r5a, r5b⟩ := id r5
    refine gd_if_ne hC dX3_find_26 (tgt := 39) (by decide) ⟨by omega, by omega⟩ (fun c6 => ?_) (fun c6 => ?_)
    · skip
      refine gd_aload_n hC dX3_find_39 rfl (j := 0) rfl ?_
      refine gd_aload_n hC dX3_find_40 rfl (j := 1) rfl ?_
      refine gd_aload_n hC dX3_find_41 rfl (j := 0) rfl ?_
      refine gd_getI hC w2 hK (ci := 2) (zz_cmp (by omega)) (by omega) rfl 0 (by decide) rfl f141 rfl dX3_find_42 (fun r7 => ?_)
      obtain ⟨r7a, r7b⟩ := id r7
      refine gd_callVR (As := [zz_v (S (61 + x.toNat) 0)]) (rest := [.ref (a (61 + x.toNat))]) hC hF (fun hR => c_X3_faultOf l hl9 N0 G Y a (S) (S (61 + x.toNat) 0) (S (61 + x.toNat) 0).toNat (by omega) (by omega) (by omega) ims (by omega)) (cwV 1 hts gX3_find_X3_faultOf rfl rfl rfl (by decide +kernel) ⟨by decide, by decide⟩) rfl (by decide) (ci := 3) rfl rfl rfl rfl (Nat.le_of_ble_eq_true rfl) dX3_find_45 ⟨by decide, by decide⟩ (fun E hx => zz_xn hx) (fun q8 q8r => ?_)
      obtain ⟨q8a, q8b⟩ := id q8r
      refine gd_put hC w2 tyX2 tyX2_ok nmX2 hK (ci := 2) (zz_cmp (by omega)) (by omega) rfl 7 (by decide) rfl f159 rfl rfl (ty := .int) (by decide +kernel) rfl rfl ⟨by omega, by omega⟩ dX3_find_48 ?_
      refine gd_aload_n hC dX3_find_51 rfl (j := 0) rfl ?_
      refine gd_iconst hC dX3_find_52 ?_
      refine gd_put hC w2 tyX2 tyX2_ok nmX2 hK (ci := 2) (zz_cmp (by omega)) (by omega) rfl 1 (by decide) rfl f130 rfl rfl (ty := .int) (by decide +kernel) rfl rfl ⟨by decide, by decide⟩ dX3_find_53 ?_
      refine gd_aload_n hC dX3_find_56 rfl (j := 0) rfl ?_
      refine gd_getI hC w2 hK (ci := 2) (zz_cmp (by omega)) (by omega) rfl 7 (by decide) rfl f159 rfl dX3_find_57 (fun r9 => ?_)
      obtain ⟨r9a, r9b⟩ := id r9
      refine gd_top (y := zz_ft S (S (61 + x.toNat) 0).toNat) ((zz_u_ne _ _ (by omega)).trans (zz_u_same _ _ _ _)) ?_
      rw [((zz_u_ne _ _ (by omega)).trans (zz_u_same _ _ _ _) : (zz_u (zz_u (S) (61 + x.toNat) (7) (zz_ft S (S (61 + x.toNat) 0).toNat)) (61 + x.toNat) (1) (1)) (61 + x.toNat) (7) = zz_ft S (S (61 + x.toNat) 0).toNat)] at r9a r9b
      exact gd_ireturn hC hr rfl hlk dX3_find_60 (by decide) ⟨_, ⟨by omega, by omega⟩, rfl, (by first | rfl | ((repeat' split) <;> first | rfl | omega)), (by first | rfl | omega), (by omega)⟩
    · skip
      exact gd_throw3 (text := "not open, or the officer was not heard") hC hl9 hF (hts _ (by decide +kernel)) (hts _ (by decide +kernel)) (by decide +kernel) t3 dX3_find_29 dX3_find_32 dX3_find_33 dX3_find_35 dX3_find_38 hex (by decide) (by decide) (by decide) (by decide) hlk rfl (by omega) (by decide)

abbrev rm_X3_remedy : Room := { frames := 7, cells := 3, slots := 18, locals := 104 }
set_option maxHeartbeats 4000000 in
set_option maxRecDepth 100000 in
theorem c_X3_remedy (l : Launch) (hl9 : l.stackTraces = false) (N0 : Nat) (G : zz_G) (Y : zz_Y) (a : Nat → Nat) (S : zz_S) (x y : Int) (hx : zz_R x) (hy : zz_R y) (hI : zz_IC S) : CtR l yX3_remedy wsX3_remedy rm_X3_remedy 3 [.ref (a 0), zz_v x, zz_v y] N0 G Y a S (zz_rn S x.toNat (S 0 7).toNat) (zz_rS S x.toNat y (S 0 7).toNat) ((0 ≤ x ∧ x < S 0 9) ∧ (0 ≤ y ∧ y ≤ 100) ∧ S (61 + x.toNat) 1 = 1 ∧ ¬ S (61 + x.toNat) 7 = 0) (¬ (0 ≤ x ∧ x < S 0 9)) ((0 ≤ x ∧ x < S 0 9) ∧ ¬ (0 ≤ y ∧ y ≤ 100)) ((0 ≤ x ∧ x < S 0 9) ∧ (0 ≤ y ∧ y ≤ 100) ∧ ¬ (S (61 + x.toNat) 1 = 1 ∧ ¬ S (61 + x.toNat) 7 = 0)) := by
  refine Ct_.of (cc := cX3_remedy) (maxL := 6) (ret := (some .int)) (by decide) rfl (Nat.le_of_ble_eq_true rfl) ?_
  intro p e s m args below meth c hC hts hr hlk hex hF
  have hK := hF.2.1
  have w2 : ∀ w ∈ u_ws RX2 TX2 8, w.before args s = true := fun w h => hts w (List.mem_cons_of_mem _ (List.mem_append_left _ (List.mem_append_left _ (List.mem_append_left _ (List.mem_append_left _ (List.mem_append_left _ (List.mem_append_right _ h)))))))
  have w3 : ∀ w ∈ u_ws RX3 TX3 11, w.before args s = true := fun w h => hts w (List.mem_cons_of_mem _ (List.mem_append_left _ (List.mem_append_left _ (List.mem_append_left _ (List.mem_append_left _ (List.mem_append_left _ (List.mem_append_left _ (List.mem_append_right _ h))))))))
  have f29 : (Cond.fieldLink RX3 29 "Grievancehall" "acts" "[LGrievancehall$Act;").before args s = true := hts _ (by decide +kernel)
  have f36 : (Cond.fieldLink RX3 36 "Grievancehall" "complaints" "[LGrievancehall$Complaint;").before args s = true := hts _ (by decide +kernel)
  have f86 : (Cond.fieldLink RX3 86 "Grievancehall" "actCount" "I").before args s = true := hts _ (by decide +kernel)
  have f127 : (Cond.fieldLink RX3 127 "Grievancehall" "complaintCount" "I").before args s = true := hts _ (by decide +kernel)
  have f130 : (Cond.fieldLink RX3 130 "Grievancehall$Complaint" "state" "I").before args s = true := hts _ (by decide +kernel)
  have f141 : (Cond.fieldLink RX3 141 "Grievancehall$Complaint" "actNumber" "I").before args s = true := hts _ (by decide +kernel)
  have f159 : (Cond.fieldLink RX3 159 "Grievancehall$Complaint" "finding" "I").before args s = true := hts _ (by decide +kernel)
  have t3 : ∀ w ∈ (vx_atS RX3 56 "java/lang/IllegalStateException" ["java/lang/RuntimeException", "java/lang/Exception"]).filter goodWord, w.before args s = true := fun w h => hts w (List.mem_cons_of_mem _ (List.mem_append_left _ (List.mem_append_left _ (List.mem_append_right _ h))))
  refine gd_lveq (lv' := [(0, .ref (a 0)), (1, zz_v x), (2, zz_v y)]) rfl ?_
  obtain ⟨itc, ioc, iac, icc, itd, idc, ilc, iab, idv, iow, ikd, idy, ims, ihm, ict, iwv, irm, ipl, ian, ist, idl, ipe, ifi, ias, ihe, ifn, iod, ity⟩ := id hI
  obtain ⟨hx1, hx2⟩ := id hx
  obtain ⟨hy1, hy2⟩ := id hy
  refine gd_iload_n hC dX3_remedy_0 rfl (j := 1) rfl ?_
  refine gd_aload_n hC dX3_remedy_1 rfl (j := 0) rfl ?_
  refine gd_getI hC w3 hK (ci := 3) rfl (by decide) rfl 9 (by decide) rfl f127 rfl dX3_remedy_2 (fun r1 => ?_)
  obtain ⟨r1a, r1b⟩ := id r1
  refine gd_callSN (As := [zz_v x, zz_v (S 0 9)]) (rest := []) hC hF (fun hR => c_X3_needNumber l hl9 N0 G Y a (S) x (S 0 9) ⟨by omega, by omega⟩ ⟨by omega, by omega⟩) (va_cwS 2 hts gX3_remedy_X3_needNumber rfl rfl rfl (by decide +kernel) ⟨by decide, by decide⟩) rfl rfl (Nat.le_of_ble_eq_true rfl) dX3_remedy_5 ⟨by decide, by decide⟩ (fun E hx => gx_out (Y := Y) (fun x h => (hex x h).elim) hlk ⟨rfl, zz_xm (fun z => by omega) (fun z => z.elim) (fun z => z.elim) hx⟩ (by decide)) (fun q2 => ?_)
  refine gd_iload_n hC dX3_remedy_8 rfl (j := 2) rfl ?_
  refine gd_iconst hC dX3_remedy_9 ?_
  refine gd_bipush hC dX3_remedy_10 rfl ?_
  refine gd_callSN (As := [zz_v y, zz_v 0, zz_v 100]) (rest := []) hC hF (fun hR => c_X3_needRange l hl9 N0 G Y a (S) y 0 100 ⟨by omega, by omega⟩ ⟨by decide, by decide⟩ ⟨by decide, by decide⟩) (va_cwS 3 hts gX3_remedy_X3_needRange rfl rfl rfl (by decide +kernel) ⟨by decide, by decide⟩) rfl rfl (Nat.le_of_ble_eq_true rfl) dX3_remedy_12 ⟨by decide, by decide⟩ (fun E hx => gx_out (Y := Y) (fun x h => (hex x h).elim) hlk ⟨rfl, zz_xm (fun z => z.elim) (fun z => by omega) (fun z => z.elim) hx⟩ (by decide)) (fun q3 => ?_)
  refine gd_aload_n hC dX3_remedy_15 rfl (j := 0) rfl ?_
  refine gd_getR hC w3 hK (ci := 3) rfl (by decide) rfl 8 (by decide) (j := 12) rfl f36 rfl dX3_remedy_16 ?_
  refine gd_iload_n hC dX3_remedy_19 rfl (j := 1) rfl ?_
  refine gd_aald hC hK (t := 3) (Cn := RX2) (j := x.toNat) (q := 61 + x.toNat) rfl (by decide) rfl (by omega) (by omega) (by decide) rfl dX3_remedy_20 ?_
  have hian := ian x.toNat (by omega)
  refine gd_astore_n hC dX3_remedy_21 rfl (by decide) (lv' := [(3, .ref (a (61 + x.toNat))), (0, .ref (a 0)), (1, zz_v x), (2, zz_v y)]) rfl ?_
  refine gd_aload_n hC dX3_remedy_22 rfl (j := 0) rfl ?_
  refine gd_getI hC w2 hK (ci := 2) (zz_cmp (by omega)) (by omega) rfl 1 (by decide) rfl f130 rfl dX3_remedy_23 (fun r4 => ?_)
  obtain ⟨r4a, r4b⟩ := id r4
  refine gd_iconst hC dX3_remedy_26 ?_
  refine gd_icmp_ne hC dX3_remedy_27 (tgt := 37) (by decide) ⟨by omega, by omega⟩ ⟨by decide, by decide⟩ (fun c5 => ?_) (fun c5 => ?_)
  · skip
    exact gd_throw3 (text := "not found with a fault") hC hl9 hF (hts _ (by decide +kernel)) (hts _ (by decide +kernel)) (by decide +kernel) t3 dX3_remedy_37 dX3_remedy_40 dX3_remedy_41 dX3_remedy_43 dX3_remedy_46 hex (by decide) (by decide) (by decide) (by decide) hlk rfl (by omega) (by decide)
  · skip
    refine gd_aload_n hC dX3_remedy_30 rfl (j := 0) rfl ?_
    refine gd_getI hC w2 hK (ci := 2) (zz_cmp (by omega)) (by omega) rfl 7 (by decide) rfl f159 rfl dX3_remedy_31 (fun r6 => ?_)
    obtain ⟨r6a, r6b⟩ := id r6
    refine gd_if_ne hC dX3_remedy_34 (tgt := 47) (by decide) ⟨by omega, by omega⟩ (fun c7 => ?_) (fun c7 => ?_)
    · skip
      refine gd_iconst hC dX3_remedy_47 ?_
      refine gd_istore hC dX3_remedy_48 (by decide) (lv' := [(4, zz_v 0), (3, .ref (a (61 + x.toNat))), (0, .ref (a 0)), (1, zz_v x), (2, zz_v y)]) rfl ?_
      refine gd_iconst hC dX3_remedy_50 ?_
      refine gd_istore hC dX3_remedy_51 (by decide) (lv' := [(5, zz_v 0), (4, zz_v 0), (3, .ref (a (61 + x.toNat))), (0, .ref (a 0)), (1, zz_v x), (2, zz_v y)]) rfl ?_
      refine gd_sub [3, 5, 2, 1, 0] (lv' := [(0, .ref (a 0)), (2, zz_v y), (3, .ref (a (61 + x.toNat))), (4, zz_v 0), (5, zz_v 0)]) rfl ?_
      refine gd_loop (σ := Nat) (μ := fun vz => (S 0 7).toNat - vz) (I := fun vz => (vz ≤ (S 0 7).toNat)) (Sf := fun vz => zz_rS S x.toNat y vz) (lf := fun vz => [(0, .ref (a 0)), (2, zz_v y), (3, .ref (a (61 + x.toNat))), (4, zz_v (zz_rn S x.toNat vz)), (5, zz_v (vz : Int))]) 0 (by omega) rfl rfl (fun i hI ih53 => ?_)
      have hI0 : i ≤ (S 0 7).toNat := hI
      refine gd_lveq (lv' := [(0, .ref (a 0)), (2, zz_v y), (3, .ref (a (61 + x.toNat))), (4, zz_v (zz_rn S x.toNat i)), (5, zz_v (i : Int))]) rfl ?_
      refine gd_eq (S' := zz_rS S x.toNat y i) rfl ?_
      have hsr := zz_rS_sr S x.toNat y i (by omega)
      have hrn := zz_rn_rng S x.toNat i
      have hrb := zz_rb_01 S x.toNat i
      refine gd_iload hC dX3_remedy_53 (j := 4) rfl ?_
      refine gd_aload_n hC dX3_remedy_55 rfl (j := 0) rfl ?_
      refine gd_getI hC w3 hK (ci := 3) rfl (by decide) rfl 7 (by decide) rfl f86 rfl dX3_remedy_56 (fun r8 => ?_)
      obtain ⟨r8a, r8b⟩ := id r8
      refine gd_top (y := S 0 7) (hsr _ _ (by omega)) ?_
      refine gd_icmp_ge hC dX3_remedy_59 (tgt := 113) (by decide) ⟨by omega, by omega⟩ ⟨by omega, by omega⟩ (fun c9 => ?_) (fun c9 => ?_)
      · skip
        refine gd_iload hC dX3_remedy_113 (j := 3) rfl ?_
        exact gd_ireturn hC hr rfl hlk dX3_remedy_115 (by decide) ⟨_, ⟨by omega, by omega⟩, rfl, (by rw [show (S 0 7).toNat = i by omega]), (by rw [show (S 0 7).toNat = i by omega]), (by omega)⟩
      · skip
        refine gd_iload hC dX3_remedy_62 (j := 4) rfl ?_
        refine gd_aload_n hC dX3_remedy_64 rfl (j := 2) rfl ?_
        refine gd_getI hC w2 hK (ci := 2) (zz_cmp (by omega)) (by omega) rfl 0 (by decide) rfl f141 rfl dX3_remedy_65 (fun r10 => ?_)
        obtain ⟨r10a, r10b⟩ := id r10
        refine gd_top (y := S (61 + x.toNat) 0) (hsr _ _ (by omega)) ?_
        refine gd_icmp_eq hC dX3_remedy_68 (tgt := 93) (by decide) ⟨by omega, by omega⟩ ⟨by omega, by omega⟩ (fun c11 => ?_) (fun c11 => ?_)
        · skip
          refine gd_aload_n hC dX3_remedy_93 rfl (j := 0) rfl ?_
          refine gd_getR hC w3 hK (ci := 3) rfl (by decide) rfl 6 (by decide) (j := 11) rfl f29 rfl dX3_remedy_94 ?_
          refine gd_iload hC dX3_remedy_97 (j := 4) rfl ?_
          refine gd_aald hC hK (t := 2) (Cn := RX0) (j := i) (q := 13 + i) rfl (by decide) rfl rfl (by omega) (by decide) rfl dX3_remedy_99 ?_
          refine gd_iload_n hC dX3_remedy_100 rfl (j := 1) rfl ?_
          have hhm := ihm i (by omega)
          refine gd_callVN (As := [zz_v y]) (rest := []) hC hF (fun hR => c_X0_giveRemedy l hl9 N0 G Y a (zz_rS S x.toNat y i) i y (by omega) (by omega) (by rw [hsr (13 + i) 4 (by omega)]; exact hhm)) (cwV 1 hts gX3_remedy_X0_giveRemedy rfl rfl rfl (by decide +kernel) ⟨by decide, by decide⟩) (zz_act (by omega)) (by omega) (ci := 0) rfl rfl rfl rfl (Nat.le_of_ble_eq_true rfl) dX3_remedy_101 ⟨by decide, by decide⟩ (fun E hx => zz_xn hx) (fun q12 => ?_)
          refine gd_iinc hC dX3_remedy_104 (j := 3) rfl (y := zz_rn S x.toNat i + 1) (by omega) (by decide) (lv' := [(4, zz_v (zz_rn S x.toNat i + 1)), (0, .ref (a 0)), (2, zz_v y), (3, .ref (a (61 + x.toNat))), (5, zz_v (i : Int))]) rfl ?_
          refine gd_iinc hC dX3_remedy_107 (j := 4) rfl (y := ((i + 1 : Nat) : Int)) (by omega) (by decide) (lv' := [(5, zz_v ((i + 1 : Nat) : Int)), (4, zz_v (zz_rn S x.toNat i + 1)), (0, .ref (a 0)), (2, zz_v y), (3, .ref (a (61 + x.toNat)))]) rfl ?_
          refine gd_goto hC dX3_remedy_110 (tgt := 53) (by decide) ?_
          refine gd_sub [2, 3, 4, 1, 0] (lv' := [(0, .ref (a 0)), (2, zz_v y), (3, .ref (a (61 + x.toNat))), (4, zz_v (zz_rn S x.toNat i + 1)), (5, zz_v ((i + 1 : Nat) : Int))]) rfl ?_
          have hq : zz_rb S x.toNat i = 1 := by unfold zz_rb; omega
          have hz : zz_rn S x.toNat i + 1 = zz_rn S x.toNat (i + 1) := by rw [zz_rn, hq]
          refine gd_lveq (lv' := [(0, .ref (a 0)), (2, zz_v y), (3, .ref (a (61 + x.toNat))), (4, zz_v (zz_rn S x.toNat (i + 1))), (5, zz_v (((i + 1) : Nat) : Int))]) (by rw [hz]) ?_
          refine gd_eq (S' := zz_rS S x.toNat y (i + 1)) (by rw [zz_rS]; first | (rw [if_neg (by omega), hsr (13 + i) 4 (by omega)]) | (rw [if_pos (by omega)])) ?_
          exact ih53 (i + 1) (by omega) (show (S 0 7).toNat - (i + 1) < (S 0 7).toNat - i by omega)
        · skip
          refine gd_aload_n hC dX3_remedy_71 rfl (j := 0) rfl ?_
          refine gd_aload_n hC dX3_remedy_72 rfl (j := 2) rfl ?_
          refine gd_getI hC w2 hK (ci := 2) (zz_cmp (by omega)) (by omega) rfl 0 (by decide) rfl f141 rfl dX3_remedy_73 (fun r13 => ?_)
          obtain ⟨r13a, r13b⟩ := id r13
          refine gd_top (y := S (61 + x.toNat) 0) (hsr _ _ (by omega)) ?_
          refine gd_iload hC dX3_remedy_76 (j := 4) rfl ?_
          refine gd_callVR (As := [zz_v (S (61 + x.toNat) 0), zz_v (i : Int)]) (rest := []) hC hF (fun hR => c_X3_isLike l hl9 N0 G Y a (zz_rS S x.toNat y i) (S (61 + x.toNat) 0) (i : Int) (S (61 + x.toNat) 0).toNat i (by omega) rfl (by omega) (by omega)) (cwV 2 hts gX3_remedy_X3_isLike rfl rfl rfl (by decide +kernel) ⟨by decide, by decide⟩) rfl (by decide) (ci := 3) rfl rfl rfl rfl (Nat.le_of_ble_eq_true rfl) dX3_remedy_78 ⟨by decide, by decide⟩ (fun E hx => zz_xn hx) (fun q14 q14r => ?_)
          obtain ⟨q14a, q14b⟩ := id q14r
          refine gd_top (y := zz_li S (S (61 + x.toNat) 0).toNat i) (zz_li_sr hsr _ _) ?_
          have hl01 := zz_li_01 S (S (61 + x.toNat) 0).toNat i
          refine gd_if_eq hC dX3_remedy_81 (tgt := 107) (by decide) ⟨by omega, by omega⟩ (fun c15 => ?_) (fun c15 => ?_)
          · skip
            refine gd_iinc hC dX3_remedy_107 (j := 4) rfl (y := ((i + 1 : Nat) : Int)) (by omega) (by decide) (lv' := [(5, zz_v ((i + 1 : Nat) : Int)), (0, .ref (a 0)), (2, zz_v y), (3, .ref (a (61 + x.toNat))), (4, zz_v (zz_rn S x.toNat i))]) rfl ?_
            refine gd_goto hC dX3_remedy_110 (tgt := 53) (by decide) ?_
            refine gd_sub [1, 2, 3, 4, 0] (lv' := [(0, .ref (a 0)), (2, zz_v y), (3, .ref (a (61 + x.toNat))), (4, zz_v (zz_rn S x.toNat i)), (5, zz_v ((i + 1 : Nat) : Int))]) rfl ?_
            have hq : zz_rb S x.toNat i = 0 := by unfold zz_rb; omega
            have hz : zz_rn S x.toNat i = zz_rn S x.toNat (i + 1) := by rw [zz_rn, hq]; omega
            refine gd_lveq (lv' := [(0, .ref (a 0)), (2, zz_v y), (3, .ref (a (61 + x.toNat))), (4, zz_v (zz_rn S x.toNat (i + 1))), (5, zz_v (((i + 1) : Nat) : Int))]) (by rw [hz]) ?_
            refine gd_eq (S' := zz_rS S x.toNat y (i + 1)) (by rw [zz_rS]; first | (rw [if_neg (by omega), hsr (13 + i) 4 (by omega)]) | (rw [if_pos (by omega)])) ?_
            exact ih53 (i + 1) (by omega) (show (S 0 7).toNat - (i + 1) < (S 0 7).toNat - i by omega)
          · skip
            refine gd_aload_n hC dX3_remedy_84 rfl (j := 0) rfl ?_
            refine gd_iload hC dX3_remedy_85 (j := 4) rfl ?_
            refine gd_callVR (As := [zz_v (i : Int)]) (rest := []) hC hF (fun hR => c_X3_faultOf l hl9 N0 G Y a (zz_rS S x.toNat y i) (i : Int) i rfl (by omega) (by rw [hsr 0 7 (by omega)]; exact iac) (fun q hq => by rw [hsr (13 + q) 3 (by omega)]; exact ims q hq) (by rw [hsr 7 3 (by omega)]; exact ilc)) (cwV 1 hts gX3_remedy_X3_faultOf rfl rfl rfl (by decide +kernel) ⟨by decide, by decide⟩) rfl (by decide) (ci := 3) rfl rfl rfl rfl (Nat.le_of_ble_eq_true rfl) dX3_remedy_87 ⟨by decide, by decide⟩ (fun E hx => zz_xn hx) (fun q16 q16r => ?_)
            obtain ⟨q16a, q16b⟩ := id q16r
            refine gd_top (y := zz_ft S i) (zz_ft_sr hsr _) ?_
            have hf03 := zz_ft_rng S i
            refine gd_if_eq hC dX3_remedy_90 (tgt := 107) (by decide) ⟨by omega, by omega⟩ (fun c17 => ?_) (fun c17 => ?_)
            · skip
              refine gd_iinc hC dX3_remedy_107 (j := 4) rfl (y := ((i + 1 : Nat) : Int)) (by omega) (by decide) (lv' := [(5, zz_v ((i + 1 : Nat) : Int)), (0, .ref (a 0)), (2, zz_v y), (3, .ref (a (61 + x.toNat))), (4, zz_v (zz_rn S x.toNat i))]) rfl ?_
              refine gd_goto hC dX3_remedy_110 (tgt := 53) (by decide) ?_
              refine gd_sub [1, 2, 3, 4, 0] (lv' := [(0, .ref (a 0)), (2, zz_v y), (3, .ref (a (61 + x.toNat))), (4, zz_v (zz_rn S x.toNat i)), (5, zz_v ((i + 1 : Nat) : Int))]) rfl ?_
              have hq : zz_rb S x.toNat i = 0 := by unfold zz_rb; omega
              have hz : zz_rn S x.toNat i = zz_rn S x.toNat (i + 1) := by rw [zz_rn, hq]; omega
              refine gd_lveq (lv' := [(0, .ref (a 0)), (2, zz_v y), (3, .ref (a (61 + x.toNat))), (4, zz_v (zz_rn S x.toNat (i + 1))), (5, zz_v (((i + 1) : Nat) : Int))]) (by rw [hz]) ?_
              refine gd_eq (S' := zz_rS S x.toNat y (i + 1)) (by rw [zz_rS]; first | (rw [if_neg (by omega), hsr (13 + i) 4 (by omega)]) | (rw [if_pos (by omega)])) ?_
              exact ih53 (i + 1) (by omega) (show (S 0 7).toNat - (i + 1) < (S 0 7).toNat - i by omega)
            · skip
              refine gd_aload_n hC dX3_remedy_93 rfl (j := 0) rfl ?_
              refine gd_getR hC w3 hK (ci := 3) rfl (by decide) rfl 6 (by decide) (j := 11) rfl f29 rfl dX3_remedy_94 ?_
              refine gd_iload hC dX3_remedy_97 (j := 4) rfl ?_
              refine gd_aald hC hK (t := 2) (Cn := RX0) (j := i) (q := 13 + i) rfl (by decide) rfl rfl (by omega) (by decide) rfl dX3_remedy_99 ?_
              refine gd_iload_n hC dX3_remedy_100 rfl (j := 1) rfl ?_
              have hhm := ihm i (by omega)
              refine gd_callVN (As := [zz_v y]) (rest := []) hC hF (fun hR => c_X0_giveRemedy l hl9 N0 G Y a (zz_rS S x.toNat y i) i y (by omega) (by omega) (by rw [hsr (13 + i) 4 (by omega)]; exact hhm)) (cwV 1 hts gX3_remedy_X0_giveRemedy rfl rfl rfl (by decide +kernel) ⟨by decide, by decide⟩) (zz_act (by omega)) (by omega) (ci := 0) rfl rfl rfl rfl (Nat.le_of_ble_eq_true rfl) dX3_remedy_101 ⟨by decide, by decide⟩ (fun E hx => zz_xn hx) (fun q18 => ?_)
              refine gd_iinc hC dX3_remedy_104 (j := 3) rfl (y := zz_rn S x.toNat i + 1) (by omega) (by decide) (lv' := [(4, zz_v (zz_rn S x.toNat i + 1)), (0, .ref (a 0)), (2, zz_v y), (3, .ref (a (61 + x.toNat))), (5, zz_v (i : Int))]) rfl ?_
              refine gd_iinc hC dX3_remedy_107 (j := 4) rfl (y := ((i + 1 : Nat) : Int)) (by omega) (by decide) (lv' := [(5, zz_v ((i + 1 : Nat) : Int)), (4, zz_v (zz_rn S x.toNat i + 1)), (0, .ref (a 0)), (2, zz_v y), (3, .ref (a (61 + x.toNat)))]) rfl ?_
              refine gd_goto hC dX3_remedy_110 (tgt := 53) (by decide) ?_
              refine gd_sub [2, 3, 4, 1, 0] (lv' := [(0, .ref (a 0)), (2, zz_v y), (3, .ref (a (61 + x.toNat))), (4, zz_v (zz_rn S x.toNat i + 1)), (5, zz_v ((i + 1 : Nat) : Int))]) rfl ?_
              have hq : zz_rb S x.toNat i = 1 := by unfold zz_rb; omega
              have hz : zz_rn S x.toNat i + 1 = zz_rn S x.toNat (i + 1) := by rw [zz_rn, hq]
              refine gd_lveq (lv' := [(0, .ref (a 0)), (2, zz_v y), (3, .ref (a (61 + x.toNat))), (4, zz_v (zz_rn S x.toNat (i + 1))), (5, zz_v (((i + 1) : Nat) : Int))]) (by rw [hz]) ?_
              refine gd_eq (S' := zz_rS S x.toNat y (i + 1)) (by rw [zz_rS]; first | (rw [if_neg (by omega), hsr (13 + i) 4 (by omega)]) | (rw [if_pos (by omega)])) ?_
              exact ih53 (i + 1) (by omega) (show (S 0 7).toNat - (i + 1) < (S 0 7).toNat - i by omega)
    · skip
      exact gd_throw3 (text := "not found with a fault") hC hl9 hF (hts _ (by decide +kernel)) (hts _ (by decide +kernel)) (by decide +kernel) t3 dX3_remedy_37 dX3_remedy_40 dX3_remedy_41 dX3_remedy_43 dX3_remedy_46 hex (by decide) (by decide) (by decide) (by decide) hlk rfl (by omega) (by decide)

abbrev rm_X3_pass : Room := { frames := 7, cells := 2, slots := 12, locals := 104 }
set_option maxHeartbeats 4000000 in
set_option maxRecDepth 100000 in
theorem c_X3_pass (l : Launch) (hl9 : l.stackTraces = false) (N0 : Nat) (G : zz_G) (Y : zz_Y) (a : Nat → Nat) (S : zz_S) (x : Int) (hx : zz_R x) (hI : zz_IC S) : CtR l yX3_pass wsX3_pass rm_X3_pass 2 [.ref (a 0), zz_v x] N0 G Y a S (S 0 10 + x) (zz_pS (zz_u S 0 10 (S 0 10 + x)) x (S 0 9).toNat) (1 ≤ x ∧ x ≤ 100 ∧ S 0 10 + x ≤ 5000) (False) (¬ (1 ≤ x ∧ x ≤ 100)) ((1 ≤ x ∧ x ≤ 100) ∧ 5000 < S 0 10 + x) := by
  refine Ct_.of (cc := cX3_pass) (maxL := 3) (ret := (some .int)) (by decide) rfl (Nat.le_of_ble_eq_true rfl) ?_
  intro p e s m args below meth c hC hts hr hlk hex hF
  have hK := hF.2.1
  have w3 : ∀ w ∈ u_ws RX3 TX3 11, w.before args s = true := fun w h => hts w (List.mem_cons_of_mem _ (List.mem_append_left _ (List.mem_append_left _ (List.mem_append_left _ (List.mem_append_right _ h)))))
  have f36 : (Cond.fieldLink RX3 36 "Grievancehall" "complaints" "[LGrievancehall$Complaint;").before args s = true := hts _ (by decide +kernel)
  have f68 : (Cond.fieldLink RX3 68 "Grievancehall" "today" "I").before args s = true := hts _ (by decide +kernel)
  have f127 : (Cond.fieldLink RX3 127 "Grievancehall" "complaintCount" "I").before args s = true := hts _ (by decide +kernel)
  have t3 : ∀ w ∈ (vx_atS RX3 56 "java/lang/IllegalStateException" ["java/lang/RuntimeException", "java/lang/Exception"]).filter goodWord, w.before args s = true := fun w h => hts w (List.mem_cons_of_mem _ (List.mem_append_left _ (List.mem_append_right _ h)))
  refine gd_lveq (lv' := [(0, .ref (a 0)), (1, zz_v x)]) rfl ?_
  obtain ⟨itc, ioc, iac, icc, itd, idc, ilc, iab, idv, iow, ikd, idy, ims, ihm, ict, iwv, irm, ipl, ian, ist, idl, ipe, ifi, ias, ihe, ifn, iod, ity⟩ := id hI
  obtain ⟨hx1, hx2⟩ := id hx
  refine gd_iload_n hC dX3_pass_0 rfl (j := 1) rfl ?_
  refine gd_iconst hC dX3_pass_1 ?_
  refine gd_bipush hC dX3_pass_2 rfl ?_
  refine gd_callSN (As := [zz_v x, zz_v 1, zz_v 100]) (rest := []) hC hF (fun hR => c_X3_needRange l hl9 N0 G Y a (S) x 1 100 ⟨by omega, by omega⟩ ⟨by decide, by decide⟩ ⟨by decide, by decide⟩) (va_cwS 3 hts gX3_pass_X3_needRange rfl rfl rfl (by decide +kernel) ⟨by decide, by decide⟩) rfl rfl (Nat.le_of_ble_eq_true rfl) dX3_pass_4 ⟨by decide, by decide⟩ (fun E hx => gx_out (Y := Y) (fun x h => (hex x h).elim) hlk ⟨rfl, zz_xm (fun z => z.elim) (fun z => by omega) (fun z => z.elim) hx⟩ (by decide)) (fun q1 => ?_)
  refine gd_aload_n hC dX3_pass_7 rfl (j := 0) rfl ?_
  refine gd_getI hC w3 hK (ci := 3) rfl (by decide) rfl 10 (by decide) rfl f68 rfl dX3_pass_8 (fun r2 => ?_)
  obtain ⟨r2a, r2b⟩ := id r2
  refine gd_iload_n hC dX3_pass_11 rfl (j := 1) rfl ?_
  refine gd_iadd hC dX3_pass_12 ?_
  refine gd_sipush hC dX3_pass_13 rfl ?_
  refine gd_icmp_le hC dX3_pass_16 (tgt := 29) (by decide) ⟨by omega, by omega⟩ ⟨by decide, by decide⟩ (fun c3 => ?_) (fun c3 => ?_)
  · skip
    refine gd_aload_n hC dX3_pass_29 rfl (j := 0) rfl ?_
    refine gd_dup hC dX3_pass_30 rfl ?_
    refine gd_getI hC w3 hK (ci := 3) rfl (by decide) rfl 10 (by decide) rfl f68 rfl dX3_pass_31 (fun r4 => ?_)
    obtain ⟨r4a, r4b⟩ := id r4
    refine gd_iload_n hC dX3_pass_34 rfl (j := 1) rfl ?_
    refine gd_iadd hC dX3_pass_35 ?_
    refine gd_put hC w3 tyX3 tyX3_ok nmX3 hK (ci := 3) rfl (by decide) rfl 10 (by decide) rfl f68 rfl rfl (ty := .int) (by decide +kernel) rfl rfl ⟨by omega, by omega⟩ dX3_pass_36 ?_
    refine gd_iconst hC dX3_pass_39 ?_
    refine gd_istore_n hC dX3_pass_40 rfl (by decide) (lv' := [(2, zz_v 0), (0, .ref (a 0)), (1, zz_v x)]) rfl ?_
    refine gd_sub [1, 2, 0] (lv' := [(0, .ref (a 0)), (1, zz_v x), (2, zz_v 0)]) rfl ?_
    refine gd_loop (σ := Nat) (μ := fun vz => (S 0 9).toNat - vz) (I := fun vz => (vz ≤ (S 0 9).toNat)) (Sf := fun vz => zz_pS (zz_u S 0 10 (S 0 10 + x)) x vz) (lf := fun vz => [(0, .ref (a 0)), (1, zz_v x), (2, zz_v (vz : Int))]) 0 (by omega) rfl rfl (fun j hI ih41 => ?_)
    have hI0 : j ≤ (S 0 9).toNat := hI
    refine gd_lveq (lv' := [(0, .ref (a 0)), (1, zz_v x), (2, zz_v (j : Int))]) rfl ?_
    refine gd_eq (S' := zz_pS (zz_u S 0 10 (S 0 10 + x)) x j) rfl ?_
    have hcc : zz_pS (zz_u S 0 10 (S 0 10 + x)) x j 0 9 = S 0 9 := (zz_pS_off _ _ _ _ _ (by omega)).trans (zz_u_ne _ _ (by omega))
    have htd : zz_pS (zz_u S 0 10 (S 0 10 + x)) x j 0 10 = S 0 10 + x := (zz_pS_off _ _ _ _ _ (by omega)).trans (zz_u_same _ _ _ _)
    refine gd_iload_n hC dX3_pass_41 rfl (j := 2) rfl ?_
    refine gd_aload_n hC dX3_pass_42 rfl (j := 0) rfl ?_
    refine gd_getI hC w3 hK (ci := 3) rfl (by decide) rfl 9 (by decide) rfl f127 rfl dX3_pass_43 (fun r5 => ?_)
    obtain ⟨r5a, r5b⟩ := id r5
    refine gd_top (y := S 0 9) hcc ?_
    refine gd_icmp_ge hC dX3_pass_46 (tgt := 65) (by decide) ⟨by omega, by omega⟩ ⟨by omega, by omega⟩ (fun c6 => ?_) (fun c6 => ?_)
    · skip
      refine gd_aload_n hC dX3_pass_65 rfl (j := 0) rfl ?_
      refine gd_getI hC w3 hK (ci := 3) rfl (by decide) rfl 10 (by decide) rfl f68 rfl dX3_pass_66 (fun r7 => ?_)
      obtain ⟨r7a, r7b⟩ := id r7
      refine gd_top (y := S 0 10 + x) htd ?_
      exact gd_ireturn hC hr rfl hlk dX3_pass_69 (by decide) ⟨_, ⟨by omega, by omega⟩, rfl, (by rw [show (S 0 9).toNat = j by omega]), (by first | rfl | omega), (by omega)⟩
    · skip
      refine gd_aload_n hC dX3_pass_49 rfl (j := 0) rfl ?_
      refine gd_getR hC w3 hK (ci := 3) rfl (by decide) rfl 8 (by decide) (j := 12) rfl f36 rfl dX3_pass_50 ?_
      refine gd_iload_n hC dX3_pass_53 rfl (j := 2) rfl ?_
      refine gd_aald hC hK (t := 3) (Cn := RX2) (j := j) (q := 61 + j) rfl (by decide) rfl rfl (by omega) (by decide) rfl dX3_pass_54 ?_
      refine gd_iload_n hC dX3_pass_55 rfl (j := 1) rfl ?_
      have hdl := idl j (by omega)
      have hdl2 : zz_pS (zz_u S 0 10 (S 0 10 + x)) x j (61 + j) 2 = S (61 + j) 2 := (zz_pS_off _ _ _ _ _ (by omega)).trans (zz_u_ne _ _ (by omega))
      refine gd_callVN (As := [zz_v x]) (rest := []) hC hF (fun hR => c_X2_letDaysGoBy l hl9 N0 G Y a (zz_pS (zz_u S 0 10 (S 0 10 + x)) x j) j x (by omega) (by omega) (by rw [hdl2]; exact hdl)) (cwV 1 hts gX3_pass_X2_letDaysGoBy rfl rfl rfl (by decide +kernel) ⟨by decide, by decide⟩) (zz_cmp (by omega)) (by omega) (ci := 2) rfl rfl rfl rfl (Nat.le_of_ble_eq_true rfl) dX3_pass_56 ⟨by decide, by decide⟩ (fun E hx => zz_xn hx) (fun q8 => ?_)
      refine gd_iinc hC dX3_pass_59 (j := 2) rfl (y := ((j + 1 : Nat) : Int)) (by omega) (by decide) (lv' := [(2, zz_v ((j + 1 : Nat) : Int)), (0, .ref (a 0)), (1, zz_v x)]) rfl ?_
      refine gd_goto hC dX3_pass_62 (tgt := 41) (by decide) ?_
      refine gd_sub [1, 2, 0] (lv' := [(0, .ref (a 0)), (1, zz_v x), (2, zz_v ((j + 1 : Nat) : Int))]) rfl ?_
      refine gd_lveq (lv' := [(0, .ref (a 0)), (1, zz_v x), (2, zz_v (((j + 1) : Nat) : Int))]) rfl ?_
      refine gd_eq (S' := zz_pS (zz_u S 0 10 (S 0 10 + x)) x (j + 1)) rfl ?_
      exact ih41 (j + 1) (by omega) (show (S 0 9).toNat - (j + 1) < (S 0 9).toNat - j by omega)
  · skip
    exact gd_throw3 (text := "above the last day") hC hl9 hF (hts _ (by decide +kernel)) (hts _ (by decide +kernel)) (by decide +kernel) t3 dX3_pass_19 dX3_pass_22 dX3_pass_23 dX3_pass_25 dX3_pass_28 hex (by decide) (by decide) (by decide) (by decide) hlk rfl (by omega) (by decide)

abbrev rm_X3_reminder : Room := { frames := 7, cells := 1, slots := 6, locals := 103 }
set_option maxHeartbeats 4000000 in
set_option maxRecDepth 100000 in
theorem c_X3_reminder (l : Launch) (hl9 : l.stackTraces = false) (N0 : Nat) (G : zz_G) (Y : zz_Y) (a : Nat → Nat) (S : zz_S) (x : Int) (hx : zz_R x) (hI : zz_IC S) : CtR l yX3_reminder wsX3_reminder rm_X3_reminder 1 [.ref (a 0), zz_v x] N0 G Y a S (if S (61 + x.toNat) 4 = 1 then zz_cb S ((S 0 10 - S (61 + x.toNat) 5) / 10).toNat (S (13 + (S (61 + x.toNat) 0).toNat) 0) else -1) (S) ((0 ≤ x ∧ x < S 0 9)) (¬ (0 ≤ x ∧ x < S 0 9)) (False) (False) := by
  refine Ct_.of (cc := cX3_reminder) (maxL := 3) (ret := (some .int)) (by decide) rfl (Nat.le_of_ble_eq_true rfl) ?_
  intro p e s m args below meth c hC hts hr hlk hex hF
  have hK := hF.2.1
  have w0 : ∀ w ∈ u_ws RX0 TX0 9, w.before args s = true := fun w h => hts w (List.mem_cons_of_mem _ (List.mem_append_left _ (List.mem_append_right _ h)))
  have w2 : ∀ w ∈ u_ws RX2 TX2 8, w.before args s = true := fun w h => hts w (List.mem_cons_of_mem _ (List.mem_append_left _ (List.mem_append_left _ (List.mem_append_right _ h))))
  have w3 : ∀ w ∈ u_ws RX3 TX3 11, w.before args s = true := fun w h => hts w (List.mem_cons_of_mem _ (List.mem_append_left _ (List.mem_append_left _ (List.mem_append_left _ (List.mem_append_right _ h)))))
  have f29 : (Cond.fieldLink RX3 29 "Grievancehall" "acts" "[LGrievancehall$Act;").before args s = true := hts _ (by decide +kernel)
  have f36 : (Cond.fieldLink RX3 36 "Grievancehall" "complaints" "[LGrievancehall$Complaint;").before args s = true := hts _ (by decide +kernel)
  have f68 : (Cond.fieldLink RX3 68 "Grievancehall" "today" "I").before args s = true := hts _ (by decide +kernel)
  have f127 : (Cond.fieldLink RX3 127 "Grievancehall" "complaintCount" "I").before args s = true := hts _ (by decide +kernel)
  have f133 : (Cond.fieldLink RX3 133 "Grievancehall$Complaint" "file" "I").before args s = true := hts _ (by decide +kernel)
  have f138 : (Cond.fieldLink RX3 138 "Grievancehall$Complaint" "askedDay" "I").before args s = true := hts _ (by decide +kernel)
  have f141 : (Cond.fieldLink RX3 141 "Grievancehall$Complaint" "actNumber" "I").before args s = true := hts _ (by decide +kernel)
  have f144 : (Cond.fieldLink RX3 144 "Grievancehall$Act" "owner" "I").before args s = true := hts _ (by decide +kernel)
  refine gd_lveq (lv' := [(0, .ref (a 0)), (1, zz_v x)]) rfl ?_
  obtain ⟨itc, ioc, iac, icc, itd, idc, ilc, iab, idv, iow, ikd, idy, ims, ihm, ict, iwv, irm, ipl, ian, ist, idl, ipe, ifi, ias, ihe, ifn, iod, ity⟩ := id hI
  obtain ⟨hx1, hx2⟩ := id hx
  refine gd_iload_n hC dX3_reminder_0 rfl (j := 1) rfl ?_
  refine gd_aload_n hC dX3_reminder_1 rfl (j := 0) rfl ?_
  refine gd_getI hC w3 hK (ci := 3) rfl (by decide) rfl 9 (by decide) rfl f127 rfl dX3_reminder_2 (fun r1 => ?_)
  obtain ⟨r1a, r1b⟩ := id r1
  refine gd_callSN (As := [zz_v x, zz_v (S 0 9)]) (rest := []) hC hF (fun hR => c_X3_needNumber l hl9 N0 G Y a (S) x (S 0 9) ⟨by omega, by omega⟩ ⟨by omega, by omega⟩) (va_cwS 2 hts gX3_reminder_X3_needNumber rfl rfl rfl (by decide +kernel) ⟨by decide, by decide⟩) rfl rfl (Nat.le_of_ble_eq_true rfl) dX3_reminder_5 ⟨by decide, by decide⟩ (fun E hx => gx_out (Y := Y) (fun x h => (hex x h).elim) hlk ⟨rfl, zz_xm (fun z => by omega) (fun z => z.elim) (fun z => z.elim) hx⟩ (by decide)) (fun q2 => ?_)
  refine gd_aload_n hC dX3_reminder_8 rfl (j := 0) rfl ?_
  refine gd_getR hC w3 hK (ci := 3) rfl (by decide) rfl 8 (by decide) (j := 12) rfl f36 rfl dX3_reminder_9 ?_
  refine gd_iload_n hC dX3_reminder_12 rfl (j := 1) rfl ?_
  refine gd_aald hC hK (t := 3) (Cn := RX2) (j := x.toNat) (q := 61 + x.toNat) rfl (by decide) rfl (by omega) (by omega) (by decide) rfl dX3_reminder_13 ?_
  have hian := ian x.toNat (by omega)
  have hias := ias x.toNat (by omega)
  have hiod := iod x.toNat (by omega)
  refine gd_astore_n hC dX3_reminder_14 rfl (by decide) (lv' := [(2, .ref (a (61 + x.toNat))), (0, .ref (a 0)), (1, zz_v x)]) rfl ?_
  refine gd_aload_n hC dX3_reminder_15 rfl (j := 0) rfl ?_
  refine gd_getI hC w2 hK (ci := 2) (zz_cmp (by omega)) (by omega) rfl 4 (by decide) rfl f133 rfl dX3_reminder_16 (fun r3 => ?_)
  obtain ⟨r3a, r3b⟩ := id r3
  refine gd_iconst hC dX3_reminder_19 ?_
  refine gd_icmp_eq hC dX3_reminder_20 (tgt := 25) (by decide) ⟨by omega, by omega⟩ ⟨by decide, by decide⟩ (fun c4 => ?_) (fun c4 => ?_)
  · skip
    refine gd_aload_n hC dX3_reminder_25 rfl (j := 1) rfl ?_
    refine gd_aload_n hC dX3_reminder_26 rfl (j := 1) rfl ?_
    refine gd_getR hC w3 hK (ci := 3) rfl (by decide) rfl 6 (by decide) (j := 11) rfl f29 rfl dX3_reminder_27 ?_
    refine gd_aload_n hC dX3_reminder_30 rfl (j := 0) rfl ?_
    refine gd_getI hC w2 hK (ci := 2) (zz_cmp (by omega)) (by omega) rfl 0 (by decide) rfl f141 rfl dX3_reminder_31 (fun r5 => ?_)
    obtain ⟨r5a, r5b⟩ := id r5
    refine gd_aald hC hK (t := 2) (Cn := RX0) (j := (S (61 + x.toNat) 0).toNat) (q := 13 + (S (61 + x.toNat) 0).toNat) rfl (by decide) rfl (by omega) (by omega) (by decide) rfl dX3_reminder_34 ?_
    refine gd_getI hC w0 hK (ci := 0) (zz_act (by omega)) (by omega) rfl 0 (by decide) rfl f144 rfl dX3_reminder_35 (fun r6 => ?_)
    obtain ⟨r6a, r6b⟩ := id r6
    have how := iow (S (61 + x.toNat) 0).toNat (by omega)
    refine gd_aload_n hC dX3_reminder_38 rfl (j := 1) rfl ?_
    refine gd_getI hC w3 hK (ci := 3) rfl (by decide) rfl 10 (by decide) rfl f68 rfl dX3_reminder_39 (fun r7 => ?_)
    obtain ⟨r7a, r7b⟩ := id r7
    refine gd_aload_n hC dX3_reminder_42 rfl (j := 0) rfl ?_
    refine gd_getI hC w2 hK (ci := 2) (zz_cmp (by omega)) (by omega) rfl 5 (by decide) rfl f138 rfl dX3_reminder_43 (fun r8 => ?_)
    obtain ⟨r8a, r8b⟩ := id r8
    refine gd_isub hC dX3_reminder_46 ?_
    refine gd_bipush hC dX3_reminder_47 rfl ?_
    refine gd_idiv hC dX3_reminder_49 ⟨by omega, by omega⟩ ⟨by omega, by omega⟩ ?_
    have hdv1 : 0 ≤ (S 0 10 - S (61 + x.toNat) 5) / 10 := by omega
    refine gd_callVR (As := [zz_v (S (13 + (S (61 + x.toNat) 0).toNat) 0), zz_v (((S 0 10) - (S (61 + x.toNat) 5)) / 10)]) (rest := []) hC hF (fun hR => c_X3_climbFrom l hl9 N0 G Y a (S) (S (13 + (S (61 + x.toNat) 0).toNat) 0) (((S 0 10) - (S (61 + x.toNat) 5)) / 10) (by omega) (by omega) iab) (cwV 2 hts gX3_reminder_X3_climbFrom rfl rfl rfl (by decide +kernel) ⟨by decide, by decide⟩) rfl (by decide) (ci := 3) rfl rfl rfl rfl (Nat.le_of_ble_eq_true rfl) dX3_reminder_50 ⟨by decide, by decide⟩ (fun E hx => zz_xn hx) (fun q9 q9r => ?_)
    obtain ⟨q9a, q9b⟩ := id q9r
    have hcr := zz_cb_rng iab ((S 0 10 - S (61 + x.toNat) 5) / 10).toNat _ how
    exact gd_ireturn hC hr rfl hlk dX3_reminder_53 (by decide) ⟨_, ⟨by omega, by omega⟩, rfl, (by first | rfl | ((repeat' split) <;> first | rfl | omega)), (by first | rfl | omega), (by omega)⟩
  · skip
    refine gd_iconst hC dX3_reminder_23 ?_
    exact gd_ireturn hC hr rfl hlk dX3_reminder_24 (by decide) ⟨_, ⟨by decide, by decide⟩, rfl, (by first | rfl | ((repeat' split) <;> first | rfl | omega)), (by first | rfl | omega), (by omega)⟩

abbrev rm_X3_fault : Room := { frames := 7, cells := 1, slots := 6, locals := 103 }
set_option maxHeartbeats 4000000 in
set_option maxRecDepth 100000 in
theorem c_X3_fault (l : Launch) (hl9 : l.stackTraces = false) (N0 : Nat) (G : zz_G) (Y : zz_Y) (a : Nat → Nat) (S : zz_S) (x : Int) (hx : zz_R x) (hI : zz_IC S) : CtR l yX3_fault wsX3_fault rm_X3_fault 1 [.ref (a 0), zz_v x] N0 G Y a S (zz_ft S x.toNat) (S) ((0 ≤ x ∧ x < S 0 7)) (¬ (0 ≤ x ∧ x < S 0 7)) (False) (False) := by
  refine Ct_.of (cc := cX3_fault) (maxL := 2) (ret := (some .int)) (by decide) rfl (Nat.le_of_ble_eq_true rfl) ?_
  intro p e s m args below meth c hC hts hr hlk hex hF
  have hK := hF.2.1
  have w3 : ∀ w ∈ u_ws RX3 TX3 11, w.before args s = true := fun w h => hts w (List.mem_cons_of_mem _ (List.mem_append_left _ (List.mem_append_left _ (List.mem_append_left _ (List.mem_append_right _ h)))))
  have f86 : (Cond.fieldLink RX3 86 "Grievancehall" "actCount" "I").before args s = true := hts _ (by decide +kernel)
  refine gd_lveq (lv' := [(0, .ref (a 0)), (1, zz_v x)]) rfl ?_
  obtain ⟨itc, ioc, iac, icc, itd, idc, ilc, iab, idv, iow, ikd, idy, ims, ihm, ict, iwv, irm, ipl, ian, ist, idl, ipe, ifi, ias, ihe, ifn, iod, ity⟩ := id hI
  obtain ⟨hx1, hx2⟩ := id hx
  refine gd_iload_n hC dX3_fault_0 rfl (j := 1) rfl ?_
  refine gd_aload_n hC dX3_fault_1 rfl (j := 0) rfl ?_
  refine gd_getI hC w3 hK (ci := 3) rfl (by decide) rfl 7 (by decide) rfl f86 rfl dX3_fault_2 (fun r1 => ?_)
  obtain ⟨r1a, r1b⟩ := id r1
  refine gd_callSN (As := [zz_v x, zz_v (S 0 7)]) (rest := []) hC hF (fun hR => c_X3_needNumber l hl9 N0 G Y a (S) x (S 0 7) ⟨by omega, by omega⟩ ⟨by omega, by omega⟩) (va_cwS 2 hts gX3_fault_X3_needNumber rfl rfl rfl (by decide +kernel) ⟨by decide, by decide⟩) rfl rfl (Nat.le_of_ble_eq_true rfl) dX3_fault_5 ⟨by decide, by decide⟩ (fun E hx => gx_out (Y := Y) (fun x h => (hex x h).elim) hlk ⟨rfl, zz_xm (fun z => by omega) (fun z => z.elim) (fun z => z.elim) hx⟩ (by decide)) (fun q2 => ?_)
  refine gd_aload_n hC dX3_fault_8 rfl (j := 0) rfl ?_
  refine gd_iload_n hC dX3_fault_9 rfl (j := 1) rfl ?_
  refine gd_callVR (As := [zz_v x]) (rest := []) hC hF (fun hR => c_X3_faultOf l hl9 N0 G Y a (S) x x.toNat (by omega) (by omega) (by omega) ims (by omega)) (cwV 1 hts gX3_fault_X3_faultOf rfl rfl rfl (by decide +kernel) ⟨by decide, by decide⟩) rfl (by decide) (ci := 3) rfl rfl rfl rfl (Nat.le_of_ble_eq_true rfl) dX3_fault_10 ⟨by decide, by decide⟩ (fun E hx => zz_xn hx) (fun q3 q3r => ?_)
  obtain ⟨q3a, q3b⟩ := id q3r
  exact gd_ireturn hC hr rfl hlk dX3_fault_13 (by decide) ⟨_, ⟨by omega, by omega⟩, rfl, (by first | rfl | ((repeat' split) <;> first | rfl | omega)), (by first | rfl | omega), (by omega)⟩

abbrev rm_X3_likes : Room := { frames := 7, cells := 1, slots := 6, locals := 103 }
set_option maxHeartbeats 4000000 in
set_option maxRecDepth 100000 in
theorem c_X3_likes (l : Launch) (hl9 : l.stackTraces = false) (N0 : Nat) (G : zz_G) (Y : zz_Y) (a : Nat → Nat) (S : zz_S) (x : Int) (hx : zz_R x) (hI : zz_IC S) : CtR l yX3_likes wsX3_likes rm_X3_likes 1 [.ref (a 0), zz_v x] N0 G Y a S (zz_ln S x.toNat (S 0 7).toNat) (S) ((0 ≤ x ∧ x < S 0 7)) (¬ (0 ≤ x ∧ x < S 0 7)) (False) (False) := by
  refine Ct_.of (cc := cX3_likes) (maxL := 2) (ret := (some .int)) (by decide) rfl (Nat.le_of_ble_eq_true rfl) ?_
  intro p e s m args below meth c hC hts hr hlk hex hF
  have hK := hF.2.1
  have w3 : ∀ w ∈ u_ws RX3 TX3 11, w.before args s = true := fun w h => hts w (List.mem_cons_of_mem _ (List.mem_append_left _ (List.mem_append_left _ (List.mem_append_right _ h))))
  have f86 : (Cond.fieldLink RX3 86 "Grievancehall" "actCount" "I").before args s = true := hts _ (by decide +kernel)
  refine gd_lveq (lv' := [(0, .ref (a 0)), (1, zz_v x)]) rfl ?_
  obtain ⟨itc, ioc, iac, icc, itd, idc, ilc, iab, idv, iow, ikd, idy, ims, ihm, ict, iwv, irm, ipl, ian, ist, idl, ipe, ifi, ias, ihe, ifn, iod, ity⟩ := id hI
  obtain ⟨hx1, hx2⟩ := id hx
  refine gd_iload_n hC dX3_likes_0 rfl (j := 1) rfl ?_
  refine gd_aload_n hC dX3_likes_1 rfl (j := 0) rfl ?_
  refine gd_getI hC w3 hK (ci := 3) rfl (by decide) rfl 7 (by decide) rfl f86 rfl dX3_likes_2 (fun r1 => ?_)
  obtain ⟨r1a, r1b⟩ := id r1
  refine gd_callSN (As := [zz_v x, zz_v (S 0 7)]) (rest := []) hC hF (fun hR => c_X3_needNumber l hl9 N0 G Y a (S) x (S 0 7) ⟨by omega, by omega⟩ ⟨by omega, by omega⟩) (va_cwS 2 hts gX3_likes_X3_needNumber rfl rfl rfl (by decide +kernel) ⟨by decide, by decide⟩) rfl rfl (Nat.le_of_ble_eq_true rfl) dX3_likes_5 ⟨by decide, by decide⟩ (fun E hx => gx_out (Y := Y) (fun x h => (hex x h).elim) hlk ⟨rfl, zz_xm (fun z => by omega) (fun z => z.elim) (fun z => z.elim) hx⟩ (by decide)) (fun q2 => ?_)
  refine gd_aload_n hC dX3_likes_8 rfl (j := 0) rfl ?_
  refine gd_iload_n hC dX3_likes_9 rfl (j := 1) rfl ?_
  refine gd_callVR (As := [zz_v x]) (rest := []) hC hF (fun hR => c_X3_countLikes l hl9 N0 G Y a (S) x x.toNat (by omega) (by omega) (by omega)) (cwV 1 hts gX3_likes_X3_countLikes rfl rfl rfl (by decide +kernel) ⟨by decide, by decide⟩) rfl (by decide) (ci := 3) rfl rfl rfl rfl (Nat.le_of_ble_eq_true rfl) dX3_likes_10 ⟨by decide, by decide⟩ (fun E hx => zz_xn hx) (fun q3 q3r => ?_)
  obtain ⟨q3a, q3b⟩ := id q3r
  exact gd_ireturn hC hr rfl hlk dX3_likes_13 (by decide) ⟨_, ⟨by omega, by omega⟩, rfl, (by first | rfl | ((repeat' split) <;> first | rfl | omega)), (by first | rfl | omega), (by omega)⟩

abbrev rm_X3_remedied : Room := { frames := 7, cells := 1, slots := 6, locals := 103 }
set_option maxHeartbeats 4000000 in
set_option maxRecDepth 100000 in
theorem c_X3_remedied (l : Launch) (hl9 : l.stackTraces = false) (N0 : Nat) (G : zz_G) (Y : zz_Y) (a : Nat → Nat) (S : zz_S) (x : Int) (hx : zz_R x) (hI : zz_IC S) : CtR l yX3_remedied wsX3_remedied rm_X3_remedied 1 [.ref (a 0), zz_v x] N0 G Y a S (S (13 + x.toNat) 7) (S) ((0 ≤ x ∧ x < S 0 7)) (¬ (0 ≤ x ∧ x < S 0 7)) (False) (False) := by
  refine Ct_.of (cc := cX3_remedied) (maxL := 2) (ret := (some .int)) (by decide) rfl (Nat.le_of_ble_eq_true rfl) ?_
  intro p e s m args below meth c hC hts hr hlk hex hF
  have hK := hF.2.1
  have w0 : ∀ w ∈ u_ws RX0 TX0 9, w.before args s = true := fun w h => hts w (List.mem_cons_of_mem _ (List.mem_append_left _ (List.mem_append_right _ h)))
  have w3 : ∀ w ∈ u_ws RX3 TX3 11, w.before args s = true := fun w h => hts w (List.mem_cons_of_mem _ (List.mem_append_left _ (List.mem_append_left _ (List.mem_append_right _ h))))
  have f29 : (Cond.fieldLink RX3 29 "Grievancehall" "acts" "[LGrievancehall$Act;").before args s = true := hts _ (by decide +kernel)
  have f86 : (Cond.fieldLink RX3 86 "Grievancehall" "actCount" "I").before args s = true := hts _ (by decide +kernel)
  have f193 : (Cond.fieldLink RX3 193 "Grievancehall$Act" "remedySum" "I").before args s = true := hts _ (by decide +kernel)
  refine gd_lveq (lv' := [(0, .ref (a 0)), (1, zz_v x)]) rfl ?_
  obtain ⟨itc, ioc, iac, icc, itd, idc, ilc, iab, idv, iow, ikd, idy, ims, ihm, ict, iwv, irm, ipl, ian, ist, idl, ipe, ifi, ias, ihe, ifn, iod, ity⟩ := id hI
  obtain ⟨hx1, hx2⟩ := id hx
  refine gd_iload_n hC dX3_remedied_0 rfl (j := 1) rfl ?_
  refine gd_aload_n hC dX3_remedied_1 rfl (j := 0) rfl ?_
  refine gd_getI hC w3 hK (ci := 3) rfl (by decide) rfl 7 (by decide) rfl f86 rfl dX3_remedied_2 (fun r1 => ?_)
  obtain ⟨r1a, r1b⟩ := id r1
  refine gd_callSN (As := [zz_v x, zz_v (S 0 7)]) (rest := []) hC hF (fun hR => c_X3_needNumber l hl9 N0 G Y a (S) x (S 0 7) ⟨by omega, by omega⟩ ⟨by omega, by omega⟩) (va_cwS 2 hts gX3_remedied_X3_needNumber rfl rfl rfl (by decide +kernel) ⟨by decide, by decide⟩) rfl rfl (Nat.le_of_ble_eq_true rfl) dX3_remedied_5 ⟨by decide, by decide⟩ (fun E hx => gx_out (Y := Y) (fun x h => (hex x h).elim) hlk ⟨rfl, zz_xm (fun z => by omega) (fun z => z.elim) (fun z => z.elim) hx⟩ (by decide)) (fun q2 => ?_)
  refine gd_aload_n hC dX3_remedied_8 rfl (j := 0) rfl ?_
  refine gd_getR hC w3 hK (ci := 3) rfl (by decide) rfl 6 (by decide) (j := 11) rfl f29 rfl dX3_remedied_9 ?_
  refine gd_iload_n hC dX3_remedied_12 rfl (j := 1) rfl ?_
  refine gd_aald hC hK (t := 2) (Cn := RX0) (j := x.toNat) (q := 13 + x.toNat) rfl (by decide) rfl (by omega) (by omega) (by decide) rfl dX3_remedied_13 ?_
  refine gd_getI hC w0 hK (ci := 0) (zz_act (by omega)) (by omega) rfl 7 (by decide) rfl f193 rfl dX3_remedied_14 (fun r3 => ?_)
  obtain ⟨r3a, r3b⟩ := id r3
  exact gd_ireturn hC hr rfl hlk dX3_remedied_17 (by decide) ⟨_, ⟨by omega, by omega⟩, rfl, (by first | rfl | ((repeat' split) <;> first | rfl | omega)), (by first | rfl | omega), (by omega)⟩

abbrev rm_X3_gains : Room := { frames := 7, cells := 2, slots := 12, locals := 104 }
set_option maxHeartbeats 4000000 in
set_option maxRecDepth 100000 in
theorem c_X3_gains (l : Launch) (hl9 : l.stackTraces = false) (N0 : Nat) (G : zz_G) (Y : zz_Y) (a : Nat → Nat) (S : zz_S) (x y : Int) (hx : zz_R x) (hy : zz_R y) (hI : zz_IC S) : CtR l yX3_gains wsX3_gains rm_X3_gains 2 [.ref (a 0), zz_v x, zz_v y] N0 G Y a S (zz_gn S x y (S 0 7).toNat) (S) ((0 ≤ x ∧ x < 4) ∧ (0 ≤ y ∧ y ≤ 100)) (¬ (0 ≤ x ∧ x < 4)) ((0 ≤ x ∧ x < 4) ∧ ¬ (0 ≤ y ∧ y ≤ 100)) (False) := by
  refine Ct_.of (cc := cX3_gains) (maxL := 7) (ret := (some .int)) (by decide) rfl (Nat.le_of_ble_eq_true rfl) ?_
  intro p e s m args below meth c hC hts hr hlk hex hF
  have hK := hF.2.1
  have w0 : ∀ w ∈ u_ws RX0 TX0 9, w.before args s = true := fun w h => hts w (List.mem_cons_of_mem _ (List.mem_append_left _ (List.mem_append_left _ (List.mem_append_left _ (List.mem_append_right _ h)))))
  have w3 : ∀ w ∈ u_ws RX3 TX3 11, w.before args s = true := fun w h => hts w (List.mem_cons_of_mem _ (List.mem_append_left _ (List.mem_append_left _ (List.mem_append_left _ (List.mem_append_left _ (List.mem_append_right _ h))))))
  have f29 : (Cond.fieldLink RX3 29 "Grievancehall" "acts" "[LGrievancehall$Act;").before args s = true := hts _ (by decide +kernel)
  have f86 : (Cond.fieldLink RX3 86 "Grievancehall" "actCount" "I").before args s = true := hts _ (by decide +kernel)
  have f196 : (Cond.fieldLink RX3 196 "Grievancehall$Act" "kind" "I").before args s = true := hts _ (by decide +kernel)
  have f199 : (Cond.fieldLink RX3 199 "Grievancehall$Act" "measure" "I").before args s = true := hts _ (by decide +kernel)
  refine gd_lveq (lv' := [(0, .ref (a 0)), (1, zz_v x), (2, zz_v y)]) rfl ?_
  obtain ⟨itc, ioc, iac, icc, itd, idc, ilc, iab, idv, iow, ikd, idy, ims, ihm, ict, iwv, irm, ipl, ian, ist, idl, ipe, ifi, ias, ihe, ifn, iod, ity⟩ := id hI
  obtain ⟨hx1, hx2⟩ := id hx
  obtain ⟨hy1, hy2⟩ := id hy
  refine gd_iload_n hC dX3_gains_0 rfl (j := 1) rfl ?_
  refine gd_iconst hC dX3_gains_1 ?_
  refine gd_callSN (As := [zz_v x, zz_v 4]) (rest := []) hC hF (fun hR => c_X3_needNumber l hl9 N0 G Y a (S) x 4 ⟨by omega, by omega⟩ ⟨by decide, by decide⟩) (va_cwS 2 hts gX3_gains_X3_needNumber rfl rfl rfl (by decide +kernel) ⟨by decide, by decide⟩) rfl rfl (Nat.le_of_ble_eq_true rfl) dX3_gains_2 ⟨by decide, by decide⟩ (fun E hx => gx_out (Y := Y) (fun x h => (hex x h).elim) hlk ⟨rfl, zz_xm (fun z => by omega) (fun z => z.elim) (fun z => z.elim) hx⟩ (by decide)) (fun q1 => ?_)
  refine gd_iload_n hC dX3_gains_5 rfl (j := 2) rfl ?_
  refine gd_iconst hC dX3_gains_6 ?_
  refine gd_bipush hC dX3_gains_7 rfl ?_
  refine gd_callSN (As := [zz_v y, zz_v 0, zz_v 100]) (rest := []) hC hF (fun hR => c_X3_needRange l hl9 N0 G Y a (S) y 0 100 ⟨by omega, by omega⟩ ⟨by decide, by decide⟩ ⟨by decide, by decide⟩) (va_cwS 3 hts gX3_gains_X3_needRange rfl rfl rfl (by decide +kernel) ⟨by decide, by decide⟩) rfl rfl (Nat.le_of_ble_eq_true rfl) dX3_gains_9 ⟨by decide, by decide⟩ (fun E hx => gx_out (Y := Y) (fun x h => (hex x h).elim) hlk ⟨rfl, zz_xm (fun z => z.elim) (fun z => by omega) (fun z => z.elim) hx⟩ (by decide)) (fun q2 => ?_)
  refine gd_iconst hC dX3_gains_12 ?_
  refine gd_istore_n hC dX3_gains_13 rfl (by decide) (lv' := [(3, zz_v 0), (0, .ref (a 0)), (1, zz_v x), (2, zz_v y)]) rfl ?_
  refine gd_iconst hC dX3_gains_14 ?_
  refine gd_istore hC dX3_gains_15 (by decide) (lv' := [(4, zz_v 0), (3, zz_v 0), (0, .ref (a 0)), (1, zz_v x), (2, zz_v y)]) rfl ?_
  refine gd_sub [2, 3, 4, 1, 0] (lv' := [(0, .ref (a 0)), (1, zz_v x), (2, zz_v y), (3, zz_v 0), (4, zz_v 0)]) rfl ?_
  refine gd_loop (σ := Nat) (μ := fun vz => (S 0 7).toNat - vz) (I := fun vz => (vz ≤ (S 0 7).toNat)) (Sf := fun vz => S) (lf := fun vz => [(0, .ref (a 0)), (1, zz_v x), (2, zz_v y), (3, zz_v (zz_gn S x y vz)), (4, zz_v (vz : Int))]) 0 (by omega) rfl rfl (fun i hI ih17 => ?_)
  have hI0 : i ≤ (S 0 7).toNat := hI
  refine gd_lveq (lv' := [(0, .ref (a 0)), (1, zz_v x), (2, zz_v y), (3, zz_v (zz_gn S x y i)), (4, zz_v (i : Int))]) rfl ?_
  refine gd_eq (S' := S) rfl ?_
  have hgr := zz_gn_rng S x y i
  have hf0 := zz_fr_01 S i
  refine gd_iload hC dX3_gains_17 (j := 4) rfl ?_
  refine gd_aload_n hC dX3_gains_19 rfl (j := 0) rfl ?_
  refine gd_getI hC w3 hK (ci := 3) rfl (by decide) rfl 7 (by decide) rfl f86 rfl dX3_gains_20 (fun r3 => ?_)
  obtain ⟨r3a, r3b⟩ := id r3
  refine gd_icmp_ge hC dX3_gains_23 (tgt := 91) (by decide) ⟨by omega, by omega⟩ ⟨by omega, by omega⟩ (fun c4 => ?_) (fun c4 => ?_)
  · skip
    refine gd_iload_n hC dX3_gains_91 rfl (j := 3) rfl ?_
    exact gd_ireturn hC hr rfl hlk dX3_gains_92 (by decide) ⟨_, ⟨by omega, by omega⟩, rfl, (by first | rfl | ((repeat' split) <;> first | rfl | omega)), (by rw [show (S 0 7).toNat = i by omega]), (by omega)⟩
  · skip
    refine gd_aload_n hC dX3_gains_26 rfl (j := 0) rfl ?_
    refine gd_getR hC w3 hK (ci := 3) rfl (by decide) rfl 6 (by decide) (j := 11) rfl f29 rfl dX3_gains_27 ?_
    refine gd_iload hC dX3_gains_30 (j := 4) rfl ?_
    refine gd_aald hC hK (t := 2) (Cn := RX0) (j := i) (q := 13 + i) rfl (by decide) rfl rfl (by omega) (by decide) rfl dX3_gains_32 ?_
    refine gd_getI hC w0 hK (ci := 0) (zz_act (by omega)) (by omega) rfl 1 (by decide) rfl f196 rfl dX3_gains_33 (fun r5 => ?_)
    obtain ⟨r5a, r5b⟩ := id r5
    refine gd_iload_n hC dX3_gains_36 rfl (j := 1) rfl ?_
    refine gd_icmp_ne hC dX3_gains_37 (tgt := 85) (by decide) ⟨by omega, by omega⟩ ⟨by omega, by omega⟩ (fun c6 => ?_) (fun c6 => ?_)
    · skip
      refine gd_iinc hC dX3_gains_85 (j := 4) rfl (y := ((i + 1 : Nat) : Int)) (by omega) (by decide) (lv' := [(4, zz_v ((i + 1 : Nat) : Int)), (0, .ref (a 0)), (1, zz_v x), (2, zz_v y), (3, zz_v (zz_gn S x y i))]) rfl ?_
      refine gd_goto hC dX3_gains_88 (tgt := 17) (by decide) ?_
      refine gd_sub [1, 2, 3, 4, 0] (lv' := [(0, .ref (a 0)), (1, zz_v x), (2, zz_v y), (3, zz_v (zz_gn S x y i)), (4, zz_v ((i + 1 : Nat) : Int))]) rfl ?_
      have hz : zz_gn S x y i = zz_gn S x y (i + 1) := by rw [zz_gn]; omega
      refine gd_lveq (lv' := [(0, .ref (a 0)), (1, zz_v x), (2, zz_v y), (3, zz_v (zz_gn S x y (i + 1))), (4, zz_v (((i + 1) : Nat) : Int))]) (by rw [hz]) ?_
      exact ih17 (i + 1) (by omega) (show (S 0 7).toNat - (i + 1) < (S 0 7).toNat - i by omega)
    · skip
      refine gd_aload_n hC dX3_gains_40 rfl (j := 0) rfl ?_
      refine gd_getR hC w3 hK (ci := 3) rfl (by decide) rfl 6 (by decide) (j := 11) rfl f29 rfl dX3_gains_41 ?_
      refine gd_iload hC dX3_gains_44 (j := 4) rfl ?_
      refine gd_aald hC hK (t := 2) (Cn := RX0) (j := i) (q := 13 + i) rfl (by decide) rfl rfl (by omega) (by decide) rfl dX3_gains_46 ?_
      refine gd_getI hC w0 hK (ci := 0) (zz_act (by omega)) (by omega) rfl 3 (by decide) rfl f199 rfl dX3_gains_47 (fun r7 => ?_)
      obtain ⟨r7a, r7b⟩ := id r7
      refine gd_iload_n hC dX3_gains_50 rfl (j := 2) rfl ?_
      refine gd_icmp_le hC dX3_gains_51 (tgt := 58) (by decide) ⟨by omega, by omega⟩ ⟨by omega, by omega⟩ (fun c8 => ?_) (fun c8 => ?_)
      · skip
        refine gd_iconst hC dX3_gains_58 ?_
        refine gd_istore hC dX3_gains_59 (by decide) (lv' := [(5, zz_v 0), (0, .ref (a 0)), (1, zz_v x), (2, zz_v y), (3, zz_v (zz_gn S x y i)), (4, zz_v (i : Int))]) rfl ?_
        refine gd_aload_n hC dX3_gains_61 rfl (j := 1) rfl ?_
        refine gd_iload hC dX3_gains_62 (j := 5) rfl ?_
        refine gd_callVR (As := [zz_v (i : Int)]) (rest := []) hC hF (fun hR => c_X3_failsRule l hl9 N0 G Y a (S) (i : Int) i rfl (by omega) (by omega)) (cwV 1 hts gX3_gains_X3_failsRule rfl rfl rfl (by decide +kernel) ⟨by decide, by decide⟩) rfl (by decide) (ci := 3) rfl rfl rfl rfl (Nat.le_of_ble_eq_true rfl) dX3_gains_64 ⟨by decide, by decide⟩ (fun E hx => zz_xn hx) (fun q9 q9r => ?_)
        obtain ⟨q9a, q9b⟩ := id q9r
        refine gd_if_eq hC dX3_gains_67 (tgt := 74) (by decide) ⟨by omega, by omega⟩ (fun c10 => ?_) (fun c10 => ?_)
        · skip
          refine gd_iconst hC dX3_gains_74 ?_
          refine gd_istore hC dX3_gains_75 (by decide) (lv' := [(6, zz_v 0), (5, zz_v 0), (0, .ref (a 0)), (1, zz_v x), (2, zz_v y), (3, zz_v (zz_gn S x y i)), (4, zz_v (i : Int))]) rfl ?_
          refine gd_iload_n hC dX3_gains_77 rfl (j := 5) rfl ?_
          refine gd_iload hC dX3_gains_78 (j := 1) rfl ?_
          refine gd_iload hC dX3_gains_80 (j := 0) rfl ?_
          refine gd_isub hC dX3_gains_82 ?_
          refine gd_top (y := 0) rfl ?_
          refine gd_iadd hC dX3_gains_83 ?_
          refine gd_istore_n hC dX3_gains_84 rfl (by decide) (lv' := [(3, zz_v ((zz_gn S x y i) + 0)), (6, zz_v 0), (5, zz_v 0), (0, .ref (a 0)), (1, zz_v x), (2, zz_v y), (4, zz_v (i : Int))]) rfl ?_
          refine gd_iinc hC dX3_gains_85 (j := 6) rfl (y := ((i + 1 : Nat) : Int)) (by omega) (by decide) (lv' := [(4, zz_v ((i + 1 : Nat) : Int)), (3, zz_v ((zz_gn S x y i) + 0)), (6, zz_v 0), (5, zz_v 0), (0, .ref (a 0)), (1, zz_v x), (2, zz_v y)]) rfl ?_
          refine gd_goto hC dX3_gains_88 (tgt := 17) (by decide) ?_
          refine gd_sub [4, 5, 6, 1, 0] (lv' := [(0, .ref (a 0)), (1, zz_v x), (2, zz_v y), (3, zz_v ((zz_gn S x y i) + 0)), (4, zz_v ((i + 1 : Nat) : Int))]) rfl ?_
          have hz : (zz_gn S x y i) + 0 = zz_gn S x y (i + 1) := by rw [zz_gn]; omega
          refine gd_lveq (lv' := [(0, .ref (a 0)), (1, zz_v x), (2, zz_v y), (3, zz_v (zz_gn S x y (i + 1))), (4, zz_v (((i + 1) : Nat) : Int))]) (by rw [hz]) ?_
          exact ih17 (i + 1) (by omega) (show (S 0 7).toNat - (i + 1) < (S 0 7).toNat - i by omega)
        · skip
          refine gd_iconst hC dX3_gains_70 ?_
          refine gd_goto hC dX3_gains_71 (tgt := 75) (by decide) ?_
          refine gd_istore hC dX3_gains_75 (by decide) (lv' := [(6, zz_v 1), (5, zz_v 0), (0, .ref (a 0)), (1, zz_v x), (2, zz_v y), (3, zz_v (zz_gn S x y i)), (4, zz_v (i : Int))]) rfl ?_
          refine gd_iload_n hC dX3_gains_77 rfl (j := 5) rfl ?_
          refine gd_iload hC dX3_gains_78 (j := 1) rfl ?_
          refine gd_iload hC dX3_gains_80 (j := 0) rfl ?_
          refine gd_isub hC dX3_gains_82 ?_
          refine gd_top (y := -1) rfl ?_
          refine gd_iadd hC dX3_gains_83 ?_
          refine gd_istore_n hC dX3_gains_84 rfl (by decide) (lv' := [(3, zz_v ((zz_gn S x y i) + (-1))), (6, zz_v 1), (5, zz_v 0), (0, .ref (a 0)), (1, zz_v x), (2, zz_v y), (4, zz_v (i : Int))]) rfl ?_
          refine gd_iinc hC dX3_gains_85 (j := 6) rfl (y := ((i + 1 : Nat) : Int)) (by omega) (by decide) (lv' := [(4, zz_v ((i + 1 : Nat) : Int)), (3, zz_v ((zz_gn S x y i) + (-1))), (6, zz_v 1), (5, zz_v 0), (0, .ref (a 0)), (1, zz_v x), (2, zz_v y)]) rfl ?_
          refine gd_goto hC dX3_gains_88 (tgt := 17) (by decide) ?_
          refine gd_sub [4, 5, 6, 1, 0] (lv' := [(0, .ref (a 0)), (1, zz_v x), (2, zz_v y), (3, zz_v ((zz_gn S x y i) + (-1))), (4, zz_v ((i + 1 : Nat) : Int))]) rfl ?_
          have hz : (zz_gn S x y i) + (-1) = zz_gn S x y (i + 1) := by rw [zz_gn]; omega
          refine gd_lveq (lv' := [(0, .ref (a 0)), (1, zz_v x), (2, zz_v y), (3, zz_v (zz_gn S x y (i + 1))), (4, zz_v (((i + 1) : Nat) : Int))]) (by rw [hz]) ?_
          exact ih17 (i + 1) (by omega) (show (S 0 7).toNat - (i + 1) < (S 0 7).toNat - i by omega)
      · skip
        refine gd_iconst hC dX3_gains_54 ?_
        refine gd_goto hC dX3_gains_55 (tgt := 59) (by decide) ?_
        refine gd_istore hC dX3_gains_59 (by decide) (lv' := [(5, zz_v 1), (0, .ref (a 0)), (1, zz_v x), (2, zz_v y), (3, zz_v (zz_gn S x y i)), (4, zz_v (i : Int))]) rfl ?_
        refine gd_aload_n hC dX3_gains_61 rfl (j := 1) rfl ?_
        refine gd_iload hC dX3_gains_62 (j := 5) rfl ?_
        refine gd_callVR (As := [zz_v (i : Int)]) (rest := []) hC hF (fun hR => c_X3_failsRule l hl9 N0 G Y a (S) (i : Int) i rfl (by omega) (by omega)) (cwV 1 hts gX3_gains_X3_failsRule rfl rfl rfl (by decide +kernel) ⟨by decide, by decide⟩) rfl (by decide) (ci := 3) rfl rfl rfl rfl (Nat.le_of_ble_eq_true rfl) dX3_gains_64 ⟨by decide, by decide⟩ (fun E hx => zz_xn hx) (fun q11 q11r => ?_)
        obtain ⟨q11a, q11b⟩ := id q11r
        refine gd_if_eq hC dX3_gains_67 (tgt := 74) (by decide) ⟨by omega, by omega⟩ (fun c12 => ?_) (fun c12 => ?_)
        · skip
          refine gd_iconst hC dX3_gains_74 ?_
          refine gd_istore hC dX3_gains_75 (by decide) (lv' := [(6, zz_v 0), (5, zz_v 1), (0, .ref (a 0)), (1, zz_v x), (2, zz_v y), (3, zz_v (zz_gn S x y i)), (4, zz_v (i : Int))]) rfl ?_
          refine gd_iload_n hC dX3_gains_77 rfl (j := 5) rfl ?_
          refine gd_iload hC dX3_gains_78 (j := 1) rfl ?_
          refine gd_iload hC dX3_gains_80 (j := 0) rfl ?_
          refine gd_isub hC dX3_gains_82 ?_
          refine gd_top (y := 1) rfl ?_
          refine gd_iadd hC dX3_gains_83 ?_
          refine gd_istore_n hC dX3_gains_84 rfl (by decide) (lv' := [(3, zz_v ((zz_gn S x y i) + 1)), (6, zz_v 0), (5, zz_v 1), (0, .ref (a 0)), (1, zz_v x), (2, zz_v y), (4, zz_v (i : Int))]) rfl ?_
          refine gd_iinc hC dX3_gains_85 (j := 6) rfl (y := ((i + 1 : Nat) : Int)) (by omega) (by decide) (lv' := [(4, zz_v ((i + 1 : Nat) : Int)), (3, zz_v ((zz_gn S x y i) + 1)), (6, zz_v 0), (5, zz_v 1), (0, .ref (a 0)), (1, zz_v x), (2, zz_v y)]) rfl ?_
          refine gd_goto hC dX3_gains_88 (tgt := 17) (by decide) ?_
          refine gd_sub [4, 5, 6, 1, 0] (lv' := [(0, .ref (a 0)), (1, zz_v x), (2, zz_v y), (3, zz_v ((zz_gn S x y i) + 1)), (4, zz_v ((i + 1 : Nat) : Int))]) rfl ?_
          have hz : (zz_gn S x y i) + 1 = zz_gn S x y (i + 1) := by rw [zz_gn]; omega
          refine gd_lveq (lv' := [(0, .ref (a 0)), (1, zz_v x), (2, zz_v y), (3, zz_v (zz_gn S x y (i + 1))), (4, zz_v (((i + 1) : Nat) : Int))]) (by rw [hz]) ?_
          exact ih17 (i + 1) (by omega) (show (S 0 7).toNat - (i + 1) < (S 0 7).toNat - i by omega)
        · skip
          refine gd_iconst hC dX3_gains_70 ?_
          refine gd_goto hC dX3_gains_71 (tgt := 75) (by decide) ?_
          refine gd_istore hC dX3_gains_75 (by decide) (lv' := [(6, zz_v 1), (5, zz_v 1), (0, .ref (a 0)), (1, zz_v x), (2, zz_v y), (3, zz_v (zz_gn S x y i)), (4, zz_v (i : Int))]) rfl ?_
          refine gd_iload_n hC dX3_gains_77 rfl (j := 5) rfl ?_
          refine gd_iload hC dX3_gains_78 (j := 1) rfl ?_
          refine gd_iload hC dX3_gains_80 (j := 0) rfl ?_
          refine gd_isub hC dX3_gains_82 ?_
          refine gd_top (y := 0) rfl ?_
          refine gd_iadd hC dX3_gains_83 ?_
          refine gd_istore_n hC dX3_gains_84 rfl (by decide) (lv' := [(3, zz_v ((zz_gn S x y i) + 0)), (6, zz_v 1), (5, zz_v 1), (0, .ref (a 0)), (1, zz_v x), (2, zz_v y), (4, zz_v (i : Int))]) rfl ?_
          refine gd_iinc hC dX3_gains_85 (j := 6) rfl (y := ((i + 1 : Nat) : Int)) (by omega) (by decide) (lv' := [(4, zz_v ((i + 1 : Nat) : Int)), (3, zz_v ((zz_gn S x y i) + 0)), (6, zz_v 1), (5, zz_v 1), (0, .ref (a 0)), (1, zz_v x), (2, zz_v y)]) rfl ?_
          refine gd_goto hC dX3_gains_88 (tgt := 17) (by decide) ?_
          refine gd_sub [4, 5, 6, 1, 0] (lv' := [(0, .ref (a 0)), (1, zz_v x), (2, zz_v y), (3, zz_v ((zz_gn S x y i) + 0)), (4, zz_v ((i + 1 : Nat) : Int))]) rfl ?_
          have hz : (zz_gn S x y i) + 0 = zz_gn S x y (i + 1) := by rw [zz_gn]; omega
          refine gd_lveq (lv' := [(0, .ref (a 0)), (1, zz_v x), (2, zz_v y), (3, zz_v (zz_gn S x y (i + 1))), (4, zz_v (((i + 1) : Nat) : Int))]) (by rw [hz]) ?_
          exact ih17 (i + 1) (by omega) (show (S 0 7).toNat - (i + 1) < (S 0 7).toNat - i by omega)
