abbrev rm_X4_in : Room := { frames := 0, cells := 0, slots := 0, locals := 0 }
set_option maxHeartbeats 4000000 in
set_option maxRecDepth 100000 in
theorem c_X4_in (l : Launch) (hl9 : l.stackTraces = false) (N0 : Nat) (G : zz_G) (Y : zz_Y) (a : Nat → Nat) (S : zz_S) (x lo hi : Int) (hx : zz_R x) (hlo : zz_R lo) (hhi : zz_R hi) : CtR l yX4_in wsX4_in rm_X4_in 0 [zz_v x, zz_v lo, zz_v hi] N0 G Y a S (if lo ≤ x ∧ x ≤ hi then 1 else 0) (S) (True) (False) (False) (False) := by
  refine Ct_.of (cc := cX4_in) (maxL := 3) (ret := (some .boolean)) (by decide) rfl (Nat.le_of_ble_eq_true rfl) ?_
  intro p e s m args below meth c hC hts hr hlk hex hF
  have hK := hF.2.1
  refine gd_lveq (lv' := [(0, zz_v x), (1, zz_v lo), (2, zz_v hi)]) rfl ?_
  obtain ⟨hx1, hx2⟩ := id hx
  obtain ⟨hlo1, hlo2⟩ := id hlo
  obtain ⟨hhi1, hhi2⟩ := id hhi
  refine gd_iload_n hC dX4_in_0 rfl (j := 0) rfl ?_
  refine gd_iload_n hC dX4_in_1 rfl (j := 1) rfl ?_
  refine gd_icmp_lt hC dX4_in_2 (tgt := 14) (by decide) ⟨by omega, by omega⟩ ⟨by omega, by omega⟩ (fun c1 => ?_) (fun c1 => ?_)
  · skip
    refine gd_iconst hC dX4_in_14 ?_
    exact gd_ireturn hC hr (zz_nb (by omega)) hlk dX4_in_15 (by decide) ⟨_, ⟨by decide, by decide⟩, rfl, (by first | rfl | ((repeat' split) <;> first | rfl | omega)), (by first | rfl | omega), trivial⟩
  · skip
    refine gd_iload_n hC dX4_in_5 rfl (j := 0) rfl ?_
    refine gd_iload_n hC dX4_in_6 rfl (j := 2) rfl ?_
    refine gd_icmp_gt hC dX4_in_7 (tgt := 14) (by decide) ⟨by omega, by omega⟩ ⟨by omega, by omega⟩ (fun c2 => ?_) (fun c2 => ?_)
    · skip
      refine gd_iconst hC dX4_in_14 ?_
      exact gd_ireturn hC hr (zz_nb (by omega)) hlk dX4_in_15 (by decide) ⟨_, ⟨by decide, by decide⟩, rfl, (by first | rfl | ((repeat' split) <;> first | rfl | omega)), (by first | rfl | omega), trivial⟩
    · skip
      refine gd_iconst hC dX4_in_10 ?_
      refine gd_goto hC dX4_in_11 (tgt := 15) (by decide) ?_
      exact gd_ireturn hC hr (zz_nb (by omega)) hlk dX4_in_15 (by decide) ⟨_, ⟨by decide, by decide⟩, rfl, (by first | rfl | ((repeat' split) <;> first | rfl | omega)), (by first | rfl | omega), trivial⟩

abbrev rm_X4_thrown : Room := { frames := 0, cells := 0, slots := 0, locals := 0 }
set_option maxHeartbeats 4000000 in
set_option maxRecDepth 100000 in
theorem c_X4_thrown (l : Launch) (hl9 : l.stackTraces = false) (N0 : Nat) (G : zz_G) (Y : zz_Y) (a : Nat → Nat) (S : zz_S)  : CtR l yX4_thrown wsX4_thrown rm_X4_thrown 0 [.ref (a 77)] N0 G Y a S (S 77 26) (S) (True) (False) (False) (False) := by
  refine Ct_.of (cc := cX4_thrown) (maxL := 1) (ret := (some .int)) (by decide) rfl (Nat.le_of_ble_eq_true rfl) ?_
  intro p e s m args below meth c hC hts hr hlk hex hF
  have hK := hF.2.1
  have w4 : ∀ w ∈ u_ws RX4 TX4 27, w.before args s = true := fun w h => hts w (List.mem_cons_of_mem _ (List.mem_append_right _ h))
  have f75 : (Cond.fieldLink RX4 75 "GrievancehallModel" "thrown" "I").before args s = true := hts _ (by decide +kernel)
  refine gd_lveq (lv' := [(0, .ref (a 77))]) rfl ?_
  refine gd_aload_n hC dX4_thrown_0 rfl (j := 0) rfl ?_
  refine gd_getI hC w4 hK (ci := 4) rfl (by decide) rfl 26 (by decide) rfl f75 rfl dX4_thrown_1 (fun r1 => ?_)
  obtain ⟨r1a, r1b⟩ := id r1
  exact gd_ireturn hC hr rfl hlk dX4_thrown_4 (by decide) ⟨_, ⟨by omega, by omega⟩, rfl, (by first | rfl | ((repeat' split) <;> first | rfl | omega)), (by first | rfl | omega), trivial⟩

abbrev rm_X4_fails : Room := { frames := 0, cells := 0, slots := 0, locals := 0 }
set_option maxHeartbeats 4000000 in
set_option maxRecDepth 100000 in
theorem c_X4_fails (l : Launch) (hl9 : l.stackTraces = false) (N0 : Nat) (G : zz_G) (Y : zz_Y) (a : Nat → Nat) (S : zz_S) (x : Int) (hx : zz_R x) : CtR l yX4_fails wsX4_fails rm_X4_fails 0 [.ref (a 77), zz_v x] N0 G Y a S (0) (zz_u (S) (77) (26) (x)) (True) (False) (False) (False) := by
  refine Ct_.of (cc := cX4_fails) (maxL := 2) (ret := (some .int)) (by decide) rfl (Nat.le_of_ble_eq_true rfl) ?_
  intro p e s m args below meth c hC hts hr hlk hex hF
  have hK := hF.2.1
  have w4 : ∀ w ∈ u_ws RX4 TX4 27, w.before args s = true := fun w h => hts w (List.mem_cons_of_mem _ (List.mem_append_right _ h))
  have f75 : (Cond.fieldLink RX4 75 "GrievancehallModel" "thrown" "I").before args s = true := hts _ (by decide +kernel)
  refine gd_lveq (lv' := [(0, .ref (a 77)), (1, zz_v x)]) rfl ?_
  obtain ⟨hx1, hx2⟩ := id hx
  refine gd_aload_n hC dX4_fails_0 rfl (j := 0) rfl ?_
  refine gd_iload_n hC dX4_fails_1 rfl (j := 1) rfl ?_
  refine gd_put hC w4 tyX4 tyX4_ok nmX4 hK (ci := 4) rfl (by decide) rfl 26 (by decide) rfl f75 rfl rfl (ty := .int) (by decide +kernel) rfl rfl ⟨by omega, by omega⟩ dX4_fails_2 ?_
  refine gd_iconst hC dX4_fails_5 ?_
  exact gd_ireturn hC hr rfl hlk dX4_fails_6 (by decide) ⟨_, ⟨by decide, by decide⟩, rfl, (by first | rfl | ((repeat' split) <;> first | rfl | omega)), (by first | rfl | omega), trivial⟩

abbrev rm_X4_asks : Room := { frames := 0, cells := 0, slots := 0, locals := 0 }
set_option maxHeartbeats 4000000 in
set_option maxRecDepth 100000 in
theorem c_X4_asks (l : Launch) (hl9 : l.stackTraces = false) (N0 : Nat) (G : zz_G) (Y : zz_Y) (a : Nat → Nat) (S : zz_S) (x : Int) (hx : x = 0 ∨ x = 1) : CtR l yX4_asks wsX4_asks rm_X4_asks 0 [.ref (a 77), zz_v x] N0 G Y a S (x) (zz_u (S) (77) (26) ((if x = 0 then 1 else 0))) (True) (False) (False) (False) := by
  refine Ct_.of (cc := cX4_asks) (maxL := 2) (ret := (some .boolean)) (by decide) rfl (Nat.le_of_ble_eq_true rfl) ?_
  intro p e s m args below meth c hC hts hr hlk hex hF
  have hK := hF.2.1
  have w4 : ∀ w ∈ u_ws RX4 TX4 27, w.before args s = true := fun w h => hts w (List.mem_cons_of_mem _ (List.mem_append_right _ h))
  have f75 : (Cond.fieldLink RX4 75 "GrievancehallModel" "thrown" "I").before args s = true := hts _ (by decide +kernel)
  refine gd_lveq (lv' := [(0, .ref (a 77)), (1, zz_v x)]) rfl ?_
  refine gd_aload_n hC dX4_asks_0 rfl (j := 0) rfl ?_
  refine gd_iload_n hC dX4_asks_1 rfl (j := 1) rfl ?_
  refine gd_if_eq hC dX4_asks_2 (tgt := 9) (by decide) ⟨by omega, by omega⟩ (fun c1 => ?_) (fun c1 => ?_)
  · skip
    refine gd_iconst hC dX4_asks_9 ?_
    refine gd_put hC w4 tyX4 tyX4_ok nmX4 hK (ci := 4) rfl (by decide) rfl 26 (by decide) rfl f75 rfl rfl (ty := .int) (by decide +kernel) rfl rfl ⟨by decide, by decide⟩ dX4_asks_10 ?_
    refine gd_iload_n hC dX4_asks_13 rfl (j := 1) rfl ?_
    exact gd_ireturn hC hr (zz_nb (by omega)) hlk dX4_asks_14 (by decide) ⟨_, ⟨by omega, by omega⟩, rfl, (by first | (rw [if_pos (by omega)]) | (rw [if_neg (by omega)])), (by first | rfl | omega), trivial⟩
  · skip
    refine gd_iconst hC dX4_asks_5 ?_
    refine gd_goto hC dX4_asks_6 (tgt := 10) (by decide) ?_
    refine gd_put hC w4 tyX4 tyX4_ok nmX4 hK (ci := 4) rfl (by decide) rfl 26 (by decide) rfl f75 rfl rfl (ty := .int) (by decide +kernel) rfl rfl ⟨by decide, by decide⟩ dX4_asks_10 ?_
    refine gd_iload_n hC dX4_asks_13 rfl (j := 1) rfl ?_
    exact gd_ireturn hC hr (zz_nb (by omega)) hlk dX4_asks_14 (by decide) ⟨_, ⟨by omega, by omega⟩, rfl, (by first | (rw [if_pos (by omega)]) | (rw [if_neg (by omega)])), (by first | rfl | omega), trivial⟩

abbrev rm_X4_isOffice : Room := { frames := 1, cells := 0, slots := 0, locals := 22 }
set_option maxHeartbeats 4000000 in
set_option maxRecDepth 100000 in
theorem c_X4_isOffice (l : Launch) (hl9 : l.stackTraces = false) (N0 : Nat) (G : zz_G) (Y : zz_Y) (a : Nat → Nat) (S : zz_S) (x : Int) (hx : zz_R x) (hn : 0 ≤ S 77 3 ∧ S 77 3 ≤ 1000) : CtR l yX4_isOffice wsX4_isOffice rm_X4_isOffice 0 [.ref (a 77), zz_v x] N0 G Y a S (if 0 ≤ x ∧ x ≤ S 77 3 - 1 then 1 else 0) (S) (True) (False) (False) (False) := by
  refine Ct_.of (cc := cX4_isOffice) (maxL := 2) (ret := (some .boolean)) (by decide) rfl (Nat.le_of_ble_eq_true rfl) ?_
  intro p e s m args below meth c hC hts hr hlk hex hF
  have hK := hF.2.1
  have w4 : ∀ w ∈ u_ws RX4 TX4 27, w.before args s = true := fun w h => hts w (List.mem_cons_of_mem _ (List.mem_append_right _ h))
  have f79 : (Cond.fieldLink RX4 79 "GrievancehallModel" "offices" "I").before args s = true := hts _ (by decide +kernel)
  refine gd_lveq (lv' := [(0, .ref (a 77)), (1, zz_v x)]) rfl ?_
  obtain ⟨hx1, hx2⟩ := id hx
  refine gd_iload_n hC dX4_isOffice_0 rfl (j := 1) rfl ?_
  refine gd_iconst hC dX4_isOffice_1 ?_
  refine gd_aload_n hC dX4_isOffice_2 rfl (j := 0) rfl ?_
  refine gd_getI hC w4 hK (ci := 4) rfl (by decide) rfl 3 (by decide) rfl f79 rfl dX4_isOffice_3 (fun r1 => ?_)
  obtain ⟨r1a, r1b⟩ := id r1
  refine gd_iconst hC dX4_isOffice_6 ?_
  refine gd_isub hC dX4_isOffice_7 ?_
  refine gd_callSR (As := [zz_v x, zz_v 0, zz_v ((S 77 3) - 1)]) (rest := []) hC hF (fun hR => c_X4_in l hl9 N0 G Y a (S) x 0 ((S 77 3) - 1) ⟨by omega, by omega⟩ ⟨by decide, by decide⟩ ⟨by omega, by omega⟩) (va_cwS 3 hts gX4_isOffice_X4_in rfl rfl rfl (by decide +kernel) ⟨by decide, by decide⟩) rfl rfl (Nat.le_of_ble_eq_true rfl) dX4_isOffice_8 ⟨by decide, by decide⟩ (fun E hx => zz_xn hx) (fun q2 q2r => ?_)
  obtain ⟨q2a, q2b⟩ := id q2r
  exact gd_ireturn hC hr (zz_nb (by omega)) hlk dX4_isOffice_11 (by decide) ⟨_, ⟨by omega, by omega⟩, rfl, (by first | rfl | ((repeat' split) <;> first | rfl | omega)), (by first | rfl | omega), trivial⟩

abbrev rm_X4_isAct : Room := { frames := 1, cells := 0, slots := 0, locals := 22 }
set_option maxHeartbeats 4000000 in
set_option maxRecDepth 100000 in
theorem c_X4_isAct (l : Launch) (hl9 : l.stackTraces = false) (N0 : Nat) (G : zz_G) (Y : zz_Y) (a : Nat → Nat) (S : zz_S) (x : Int) (hx : zz_R x) (hn : 0 ≤ S 77 7 ∧ S 77 7 ≤ 1000) : CtR l yX4_isAct wsX4_isAct rm_X4_isAct 0 [.ref (a 77), zz_v x] N0 G Y a S (if 0 ≤ x ∧ x ≤ S 77 7 - 1 then 1 else 0) (S) (True) (False) (False) (False) := by
  refine Ct_.of (cc := cX4_isAct) (maxL := 2) (ret := (some .boolean)) (by decide) rfl (Nat.le_of_ble_eq_true rfl) ?_
  intro p e s m args below meth c hC hts hr hlk hex hF
  have hK := hF.2.1
  have w4 : ∀ w ∈ u_ws RX4 TX4 27, w.before args s = true := fun w h => hts w (List.mem_cons_of_mem _ (List.mem_append_right _ h))
  have f86 : (Cond.fieldLink RX4 86 "GrievancehallModel" "acts" "I").before args s = true := hts _ (by decide +kernel)
  refine gd_lveq (lv' := [(0, .ref (a 77)), (1, zz_v x)]) rfl ?_
  obtain ⟨hx1, hx2⟩ := id hx
  refine gd_iload_n hC dX4_isAct_0 rfl (j := 1) rfl ?_
  refine gd_iconst hC dX4_isAct_1 ?_
  refine gd_aload_n hC dX4_isAct_2 rfl (j := 0) rfl ?_
  refine gd_getI hC w4 hK (ci := 4) rfl (by decide) rfl 7 (by decide) rfl f86 rfl dX4_isAct_3 (fun r1 => ?_)
  obtain ⟨r1a, r1b⟩ := id r1
  refine gd_iconst hC dX4_isAct_6 ?_
  refine gd_isub hC dX4_isAct_7 ?_
  refine gd_callSR (As := [zz_v x, zz_v 0, zz_v ((S 77 7) - 1)]) (rest := []) hC hF (fun hR => c_X4_in l hl9 N0 G Y a (S) x 0 ((S 77 7) - 1) ⟨by omega, by omega⟩ ⟨by decide, by decide⟩ ⟨by omega, by omega⟩) (va_cwS 3 hts gX4_isAct_X4_in rfl rfl rfl (by decide +kernel) ⟨by decide, by decide⟩) rfl rfl (Nat.le_of_ble_eq_true rfl) dX4_isAct_8 ⟨by decide, by decide⟩ (fun E hx => zz_xn hx) (fun q2 q2r => ?_)
  obtain ⟨q2a, q2b⟩ := id q2r
  exact gd_ireturn hC hr (zz_nb (by omega)) hlk dX4_isAct_11 (by decide) ⟨_, ⟨by omega, by omega⟩, rfl, (by first | rfl | ((repeat' split) <;> first | rfl | omega)), (by first | rfl | omega), trivial⟩

abbrev rm_X4_isComplaint : Room := { frames := 1, cells := 0, slots := 0, locals := 22 }
set_option maxHeartbeats 4000000 in
set_option maxRecDepth 100000 in
theorem c_X4_isComplaint (l : Launch) (hl9 : l.stackTraces = false) (N0 : Nat) (G : zz_G) (Y : zz_Y) (a : Nat → Nat) (S : zz_S) (x : Int) (hx : zz_R x) (hn : 0 ≤ S 77 17 ∧ S 77 17 ≤ 1000) : CtR l yX4_isComplaint wsX4_isComplaint rm_X4_isComplaint 0 [.ref (a 77), zz_v x] N0 G Y a S (if 0 ≤ x ∧ x ≤ S 77 17 - 1 then 1 else 0) (S) (True) (False) (False) (False) := by
  refine Ct_.of (cc := cX4_isComplaint) (maxL := 2) (ret := (some .boolean)) (by decide) rfl (Nat.le_of_ble_eq_true rfl) ?_
  intro p e s m args below meth c hC hts hr hlk hex hF
  have hK := hF.2.1
  have w4 : ∀ w ∈ u_ws RX4 TX4 27, w.before args s = true := fun w h => hts w (List.mem_cons_of_mem _ (List.mem_append_right _ h))
  have f89 : (Cond.fieldLink RX4 89 "GrievancehallModel" "complaints" "I").before args s = true := hts _ (by decide +kernel)
  refine gd_lveq (lv' := [(0, .ref (a 77)), (1, zz_v x)]) rfl ?_
  obtain ⟨hx1, hx2⟩ := id hx
  refine gd_iload_n hC dX4_isComplaint_0 rfl (j := 1) rfl ?_
  refine gd_iconst hC dX4_isComplaint_1 ?_
  refine gd_aload_n hC dX4_isComplaint_2 rfl (j := 0) rfl ?_
  refine gd_getI hC w4 hK (ci := 4) rfl (by decide) rfl 17 (by decide) rfl f89 rfl dX4_isComplaint_3 (fun r1 => ?_)
  obtain ⟨r1a, r1b⟩ := id r1
  refine gd_iconst hC dX4_isComplaint_6 ?_
  refine gd_isub hC dX4_isComplaint_7 ?_
  refine gd_callSR (As := [zz_v x, zz_v 0, zz_v ((S 77 17) - 1)]) (rest := []) hC hF (fun hR => c_X4_in l hl9 N0 G Y a (S) x 0 ((S 77 17) - 1) ⟨by omega, by omega⟩ ⟨by decide, by decide⟩ ⟨by omega, by omega⟩) (va_cwS 3 hts gX4_isComplaint_X4_in rfl rfl rfl (by decide +kernel) ⟨by decide, by decide⟩) rfl rfl (Nat.le_of_ble_eq_true rfl) dX4_isComplaint_8 ⟨by decide, by decide⟩ (fun E hx => zz_xn hx) (fun q2 q2r => ?_)
  obtain ⟨q2a, q2b⟩ := id q2r
  exact gd_ireturn hC hr (zz_nb (by omega)) hlk dX4_isComplaint_11 (by decide) ⟨_, ⟨by omega, by omega⟩, rfl, (by first | rfl | ((repeat' split) <;> first | rfl | omega)), (by first | rfl | omega), trivial⟩

abbrev rm_X4_isKind : Room := { frames := 1, cells := 0, slots := 0, locals := 22 }
set_option maxHeartbeats 4000000 in
set_option maxRecDepth 100000 in
theorem c_X4_isKind (l : Launch) (hl9 : l.stackTraces = false) (N0 : Nat) (G : zz_G) (Y : zz_Y) (a : Nat → Nat) (S : zz_S) (x : Int) (hx : zz_R x) : CtR l yX4_isKind wsX4_isKind rm_X4_isKind 0 [zz_v x] N0 G Y a S (if 0 ≤ x ∧ x ≤ 3 then 1 else 0) (S) (True) (False) (False) (False) := by
  refine Ct_.of (cc := cX4_isKind) (maxL := 1) (ret := (some .boolean)) (by decide) rfl (Nat.le_of_ble_eq_true rfl) ?_
  intro p e s m args below meth c hC hts hr hlk hex hF
  have hK := hF.2.1
  refine gd_lveq (lv' := [(0, zz_v x)]) rfl ?_
  obtain ⟨hx1, hx2⟩ := id hx
  refine gd_iload_n hC dX4_isKind_0 rfl (j := 0) rfl ?_
  refine gd_iconst hC dX4_isKind_1 ?_
  refine gd_iconst hC dX4_isKind_2 ?_
  refine gd_callSR (As := [zz_v x, zz_v 0, zz_v 3]) (rest := []) hC hF (fun hR => c_X4_in l hl9 N0 G Y a (S) x 0 3 ⟨by omega, by omega⟩ ⟨by decide, by decide⟩ ⟨by decide, by decide⟩) (va_cwS 3 hts gX4_isKind_X4_in rfl rfl rfl (by decide +kernel) ⟨by decide, by decide⟩) rfl rfl (Nat.le_of_ble_eq_true rfl) dX4_isKind_3 ⟨by decide, by decide⟩ (fun E hx => zz_xn hx) (fun q1 q1r => ?_)
  obtain ⟨q1a, q1b⟩ := id q1r
  exact gd_ireturn hC hr (zz_nb (by omega)) hlk dX4_isKind_6 (by decide) ⟨_, ⟨by omega, by omega⟩, rfl, (by first | rfl | ((repeat' split) <;> first | rfl | omega)), (by first | rfl | omega), trivial⟩

abbrev rm_X4_isThere : Room := { frames := 2, cells := 0, slots := 0, locals := 43 }
set_option maxHeartbeats 4000000 in
set_option maxRecDepth 100000 in
theorem c_X4_isThere (l : Launch) (hl9 : l.stackTraces = false) (N0 : Nat) (G : zz_G) (Y : zz_Y) (a : Nat → Nat) (S : zz_S) (x y : Int) (hx : zz_R x) (hy : zz_R y) (hn : 0 ≤ S 77 7 ∧ S 77 7 ≤ 1000) : CtR l yX4_isThere wsX4_isThere rm_X4_isThere 0 [.ref (a 77), zz_v x, zz_v y] N0 G Y a S (if (0 ≤ x ∧ x ≤ 9) ∧ 0 ≤ y ∧ y ≤ S 77 7 - 1 then 1 else 0) (S) (True) (False) (False) (False) := by
  refine Ct_.of (cc := cX4_isThere) (maxL := 3) (ret := (some .boolean)) (by decide) rfl (Nat.le_of_ble_eq_true rfl) ?_
  intro p e s m args below meth c hC hts hr hlk hex hF
  have hK := hF.2.1
  refine gd_lveq (lv' := [(0, .ref (a 77)), (1, zz_v x), (2, zz_v y)]) rfl ?_
  obtain ⟨hx1, hx2⟩ := id hx
  obtain ⟨hy1, hy2⟩ := id hy
  refine gd_iload_n hC dX4_isThere_0 rfl (j := 1) rfl ?_
  refine gd_iconst hC dX4_isThere_1 ?_
  refine gd_bipush hC dX4_isThere_2 rfl ?_
  refine gd_callSR (As := [zz_v x, zz_v 0, zz_v 9]) (rest := []) hC hF (fun hR => c_X4_in l hl9 N0 G Y a (S) x 0 9 ⟨by omega, by omega⟩ ⟨by decide, by decide⟩ ⟨by decide, by decide⟩) (va_cwS 3 hts gX4_isThere_X4_in rfl rfl rfl (by decide +kernel) ⟨by decide, by decide⟩) rfl rfl (Nat.le_of_ble_eq_true rfl) dX4_isThere_4 ⟨by decide, by decide⟩ (fun E hx => zz_xn hx) (fun q1 q1r => ?_)
  obtain ⟨q1a, q1b⟩ := id q1r
  refine gd_if_eq hC dX4_isThere_7 (tgt := 22) (by decide) ⟨by omega, by omega⟩ (fun c2 => ?_) (fun c2 => ?_)
  · skip
    refine gd_iconst hC dX4_isThere_22 ?_
    exact gd_ireturn hC hr (zz_nb (by omega)) hlk dX4_isThere_23 (by decide) ⟨_, ⟨by decide, by decide⟩, rfl, (by first | rfl | ((repeat' split) <;> first | rfl | omega)), (by first | rfl | omega), trivial⟩
  · skip
    refine gd_aload_n hC dX4_isThere_10 rfl (j := 0) rfl ?_
    refine gd_iload_n hC dX4_isThere_11 rfl (j := 2) rfl ?_
    refine gd_callVR (As := [zz_v y]) (rest := []) hC hF (fun hR => c_X4_isAct l hl9 N0 G Y a (S) y ⟨by omega, by omega⟩ (by omega)) (cwV 1 hts gX4_isThere_X4_isAct rfl rfl rfl (by decide +kernel) ⟨by decide, by decide⟩) rfl (by decide) (ci := 4) rfl rfl rfl rfl (Nat.le_of_ble_eq_true rfl) dX4_isThere_12 ⟨by decide, by decide⟩ (fun E hx => zz_xn hx) (fun q3 q3r => ?_)
    obtain ⟨q3a, q3b⟩ := id q3r
    refine gd_if_eq hC dX4_isThere_15 (tgt := 22) (by decide) ⟨by omega, by omega⟩ (fun c4 => ?_) (fun c4 => ?_)
    · skip
      refine gd_iconst hC dX4_isThere_22 ?_
      exact gd_ireturn hC hr (zz_nb (by omega)) hlk dX4_isThere_23 (by decide) ⟨_, ⟨by decide, by decide⟩, rfl, (by first | rfl | ((repeat' split) <;> first | rfl | omega)), (by first | rfl | omega), trivial⟩
    · skip
      refine gd_iconst hC dX4_isThere_18 ?_
      refine gd_goto hC dX4_isThere_19 (tgt := 23) (by decide) ?_
      exact gd_ireturn hC hr (zz_nb (by omega)) hlk dX4_isThere_23 (by decide) ⟨_, ⟨by decide, by decide⟩, rfl, (by first | rfl | ((repeat' split) <;> first | rfl | omega)), (by first | rfl | omega), trivial⟩

abbrev rm_X4_isTyped : Room := { frames := 0, cells := 0, slots := 0, locals := 0 }
set_option maxHeartbeats 4000000 in
set_option maxRecDepth 100000 in
theorem c_X4_isTyped (l : Launch) (hl9 : l.stackTraces = false) (N0 : Nat) (G : zz_G) (Y : zz_Y) (a : Nat → Nat) (S : zz_S) (x : Int) (k : Nat) (hk : x = (k : Int)) (hk2 : k < 4) (hl : 0 ≤ S 77 2 ∧ S 77 2 ≤ 7) : CtR l yX4_isTyped wsX4_isTyped rm_X4_isTyped 0 [.ref (a 77), zz_v x] N0 G Y a S (zz_mty (S 78) (S 77 2) k) (S) (zz_mty (S 78) (S 77 2) k = 0 ∨ zz_mty (S 78) (S 77 2) k = 1) (False) (False) (False) := by
  refine Ct_.of (cc := cX4_isTyped) (maxL := 2) (ret := (some .boolean)) (by decide) rfl (Nat.le_of_ble_eq_true rfl) ?_
  intro p e s m args below meth c hC hts hr hlk hex hF
  have hK := hF.2.1
  have w4 : ∀ w ∈ u_ws RX4 TX4 27, w.before args s = true := fun w h => hts w (List.mem_cons_of_mem _ (List.mem_append_right _ h))
  have f7 : (Cond.fieldLink RX4 7 "GrievancehallModel" "word" "[I").before args s = true := hts _ (by decide +kernel)
  have f96 : (Cond.fieldLink RX4 96 "GrievancehallModel" "letters" "I").before args s = true := hts _ (by decide +kernel)
  refine gd_lveq (lv' := [(0, .ref (a 77)), (1, zz_v x)]) rfl ?_
  refine gd_iload_n hC dX4_isTyped_0 rfl (j := 1) rfl ?_
  have c1 : (x < 0 ∨ 2 < x) ∨ x = 0 ∨ x = 1 ∨ x = 2 := by omega
  rcases c1 with c1 | c1 | c1 | c1
  · skip
    refine gd_tableOut hC dX4_isTyped_1 ⟨by omega, by omega⟩ c1 (tgt := 248) (by decide) ?_
    refine gd_aload_n hC dX4_isTyped_248 rfl (j := 0) rfl ?_
    refine gd_getI hC w4 hK (ci := 4) rfl (by decide) rfl 2 (by decide) rfl f96 rfl dX4_isTyped_249 (fun r2 => ?_)
    obtain ⟨r2a, r2b⟩ := id r2
    refine gd_bipush hC dX4_isTyped_252 rfl ?_
    refine gd_icmp_ne hC dX4_isTyped_254 (tgt := 327) (by decide) ⟨by omega, by omega⟩ ⟨by decide, by decide⟩ (fun c3 => ?_) (fun c3 => ?_)
    · skip
      refine gd_iconst hC dX4_isTyped_327 ?_
      exact gd_ireturn hC hr (zz_nb (by omega)) hlk dX4_isTyped_328 (by decide) ⟨_, ⟨by decide, by decide⟩, rfl, (by first | rfl | ((repeat' split) <;> first | rfl | omega)), (by unfold zz_mty; omega), (zz_mty_01 _ _ _)⟩
    · skip
      refine gd_aload_n hC dX4_isTyped_257 rfl (j := 0) rfl ?_
      refine gd_getR hC w4 hK (ci := 4) rfl (by decide) rfl 1 (by decide) (j := 78) rfl f7 rfl dX4_isTyped_258 ?_
      refine gd_iconst hC dX4_isTyped_261 ?_
      refine gd_iald hC hK (j := 0) rfl (by decide) rfl (by omega) (by decide) dX4_isTyped_262 (fun r4 => ?_)
      obtain ⟨r4a, r4b⟩ := id r4
      refine gd_bipush hC dX4_isTyped_263 rfl ?_
      refine gd_icmp_ne hC dX4_isTyped_265 (tgt := 327) (by decide) ⟨by omega, by omega⟩ ⟨by decide, by decide⟩ (fun c5 => ?_) (fun c5 => ?_)
      · skip
        refine gd_iconst hC dX4_isTyped_327 ?_
        exact gd_ireturn hC hr (zz_nb (by omega)) hlk dX4_isTyped_328 (by decide) ⟨_, ⟨by decide, by decide⟩, rfl, (by first | rfl | ((repeat' split) <;> first | rfl | omega)), (by unfold zz_mty; omega), (zz_mty_01 _ _ _)⟩
      · skip
        refine gd_aload_n hC dX4_isTyped_268 rfl (j := 0) rfl ?_
        refine gd_getR hC w4 hK (ci := 4) rfl (by decide) rfl 1 (by decide) (j := 78) rfl f7 rfl dX4_isTyped_269 ?_
        refine gd_iconst hC dX4_isTyped_272 ?_
        refine gd_iald hC hK (j := 1) rfl (by decide) rfl (by omega) (by decide) dX4_isTyped_273 (fun r6 => ?_)
        obtain ⟨r6a, r6b⟩ := id r6
        refine gd_bipush hC dX4_isTyped_274 rfl ?_
        refine gd_icmp_ne hC dX4_isTyped_276 (tgt := 327) (by decide) ⟨by omega, by omega⟩ ⟨by decide, by decide⟩ (fun c7 => ?_) (fun c7 => ?_)
        · skip
          refine gd_iconst hC dX4_isTyped_327 ?_
          exact gd_ireturn hC hr (zz_nb (by omega)) hlk dX4_isTyped_328 (by decide) ⟨_, ⟨by decide, by decide⟩, rfl, (by first | rfl | ((repeat' split) <;> first | rfl | omega)), (by unfold zz_mty; omega), (zz_mty_01 _ _ _)⟩
        · skip
          refine gd_aload_n hC dX4_isTyped_279 rfl (j := 0) rfl ?_
          refine gd_getR hC w4 hK (ci := 4) rfl (by decide) rfl 1 (by decide) (j := 78) rfl f7 rfl dX4_isTyped_280 ?_
          refine gd_iconst hC dX4_isTyped_283 ?_
          refine gd_iald hC hK (j := 2) rfl (by decide) rfl (by omega) (by decide) dX4_isTyped_284 (fun r8 => ?_)
          obtain ⟨r8a, r8b⟩ := id r8
          refine gd_bipush hC dX4_isTyped_285 rfl ?_
          refine gd_icmp_ne hC dX4_isTyped_287 (tgt := 327) (by decide) ⟨by omega, by omega⟩ ⟨by decide, by decide⟩ (fun c9 => ?_) (fun c9 => ?_)
          · skip
            refine gd_iconst hC dX4_isTyped_327 ?_
            exact gd_ireturn hC hr (zz_nb (by omega)) hlk dX4_isTyped_328 (by decide) ⟨_, ⟨by decide, by decide⟩, rfl, (by first | rfl | ((repeat' split) <;> first | rfl | omega)), (by unfold zz_mty; omega), (zz_mty_01 _ _ _)⟩
          · skip
            refine gd_aload_n hC dX4_isTyped_290 rfl (j := 0) rfl ?_
            refine gd_getR hC w4 hK (ci := 4) rfl (by decide) rfl 1 (by decide) (j := 78) rfl f7 rfl dX4_isTyped_291 ?_
            refine gd_iconst hC dX4_isTyped_294 ?_
            refine gd_iald hC hK (j := 3) rfl (by decide) rfl (by omega) (by decide) dX4_isTyped_295 (fun r10 => ?_)
            obtain ⟨r10a, r10b⟩ := id r10
            refine gd_bipush hC dX4_isTyped_296 rfl ?_
            refine gd_icmp_ne hC dX4_isTyped_298 (tgt := 327) (by decide) ⟨by omega, by omega⟩ ⟨by decide, by decide⟩ (fun c11 => ?_) (fun c11 => ?_)
            · skip
              refine gd_iconst hC dX4_isTyped_327 ?_
              exact gd_ireturn hC hr (zz_nb (by omega)) hlk dX4_isTyped_328 (by decide) ⟨_, ⟨by decide, by decide⟩, rfl, (by first | rfl | ((repeat' split) <;> first | rfl | omega)), (by unfold zz_mty; omega), (zz_mty_01 _ _ _)⟩
            · skip
              refine gd_aload_n hC dX4_isTyped_301 rfl (j := 0) rfl ?_
              refine gd_getR hC w4 hK (ci := 4) rfl (by decide) rfl 1 (by decide) (j := 78) rfl f7 rfl dX4_isTyped_302 ?_
              refine gd_iconst hC dX4_isTyped_305 ?_
              refine gd_iald hC hK (j := 4) rfl (by decide) rfl (by omega) (by decide) dX4_isTyped_306 (fun r12 => ?_)
              obtain ⟨r12a, r12b⟩ := id r12
              refine gd_bipush hC dX4_isTyped_307 rfl ?_
              refine gd_icmp_ne hC dX4_isTyped_309 (tgt := 327) (by decide) ⟨by omega, by omega⟩ ⟨by decide, by decide⟩ (fun c13 => ?_) (fun c13 => ?_)
              · skip
                refine gd_iconst hC dX4_isTyped_327 ?_
                exact gd_ireturn hC hr (zz_nb (by omega)) hlk dX4_isTyped_328 (by decide) ⟨_, ⟨by decide, by decide⟩, rfl, (by first | rfl | ((repeat' split) <;> first | rfl | omega)), (by unfold zz_mty; omega), (zz_mty_01 _ _ _)⟩
              · skip
                refine gd_aload_n hC dX4_isTyped_312 rfl (j := 0) rfl ?_
                refine gd_getR hC w4 hK (ci := 4) rfl (by decide) rfl 1 (by decide) (j := 78) rfl f7 rfl dX4_isTyped_313 ?_
                refine gd_iconst hC dX4_isTyped_316 ?_
                refine gd_iald hC hK (j := 5) rfl (by decide) rfl (by omega) (by decide) dX4_isTyped_317 (fun r14 => ?_)
                obtain ⟨r14a, r14b⟩ := id r14
                refine gd_bipush hC dX4_isTyped_318 rfl ?_
                refine gd_icmp_ne hC dX4_isTyped_320 (tgt := 327) (by decide) ⟨by omega, by omega⟩ ⟨by decide, by decide⟩ (fun c15 => ?_) (fun c15 => ?_)
                · skip
                  refine gd_iconst hC dX4_isTyped_327 ?_
                  exact gd_ireturn hC hr (zz_nb (by omega)) hlk dX4_isTyped_328 (by decide) ⟨_, ⟨by decide, by decide⟩, rfl, (by first | rfl | ((repeat' split) <;> first | rfl | omega)), (by unfold zz_mty; omega), (zz_mty_01 _ _ _)⟩
                · skip
                  refine gd_iconst hC dX4_isTyped_323 ?_
                  refine gd_goto hC dX4_isTyped_324 (tgt := 328) (by decide) ?_
                  exact gd_ireturn hC hr (zz_nb (by omega)) hlk dX4_isTyped_328 (by decide) ⟨_, ⟨by decide, by decide⟩, rfl, (by first | rfl | ((repeat' split) <;> first | rfl | omega)), (by unfold zz_mty; omega), (zz_mty_01 _ _ _)⟩
  · skip
    refine gd_tableIn hC dX4_isTyped_1 0 c1 ⟨by decide, by decide⟩ (by decide) (by decide) rfl (tgt := 28) (by decide) ?_
    refine gd_aload_n hC dX4_isTyped_28 rfl (j := 0) rfl ?_
    refine gd_getI hC w4 hK (ci := 4) rfl (by decide) rfl 2 (by decide) rfl f96 rfl dX4_isTyped_29 (fun r16 => ?_)
    obtain ⟨r16a, r16b⟩ := id r16
    refine gd_iconst hC dX4_isTyped_32 ?_
    refine gd_icmp_ne hC dX4_isTyped_33 (tgt := 95) (by decide) ⟨by omega, by omega⟩ ⟨by decide, by decide⟩ (fun c17 => ?_) (fun c17 => ?_)
    · skip
      refine gd_iconst hC dX4_isTyped_95 ?_
      exact gd_ireturn hC hr (zz_nb (by omega)) hlk dX4_isTyped_96 (by decide) ⟨_, ⟨by decide, by decide⟩, rfl, (by first | rfl | ((repeat' split) <;> first | rfl | omega)), (by unfold zz_mty; omega), (zz_mty_01 _ _ _)⟩
    · skip
      refine gd_aload_n hC dX4_isTyped_36 rfl (j := 0) rfl ?_
      refine gd_getR hC w4 hK (ci := 4) rfl (by decide) rfl 1 (by decide) (j := 78) rfl f7 rfl dX4_isTyped_37 ?_
      refine gd_iconst hC dX4_isTyped_40 ?_
      refine gd_iald hC hK (j := 0) rfl (by decide) rfl (by omega) (by decide) dX4_isTyped_41 (fun r18 => ?_)
      obtain ⟨r18a, r18b⟩ := id r18
      refine gd_bipush hC dX4_isTyped_42 rfl ?_
      refine gd_icmp_ne hC dX4_isTyped_44 (tgt := 95) (by decide) ⟨by omega, by omega⟩ ⟨by decide, by decide⟩ (fun c19 => ?_) (fun c19 => ?_)
      · skip
        refine gd_iconst hC dX4_isTyped_95 ?_
        exact gd_ireturn hC hr (zz_nb (by omega)) hlk dX4_isTyped_96 (by decide) ⟨_, ⟨by decide, by decide⟩, rfl, (by first | rfl | ((repeat' split) <;> first | rfl | omega)), (by unfold zz_mty; omega), (zz_mty_01 _ _ _)⟩
      · skip
        refine gd_aload_n hC dX4_isTyped_47 rfl (j := 0) rfl ?_
        refine gd_getR hC w4 hK (ci := 4) rfl (by decide) rfl 1 (by decide) (j := 78) rfl f7 rfl dX4_isTyped_48 ?_
        refine gd_iconst hC dX4_isTyped_51 ?_
        refine gd_iald hC hK (j := 1) rfl (by decide) rfl (by omega) (by decide) dX4_isTyped_52 (fun r20 => ?_)
        obtain ⟨r20a, r20b⟩ := id r20
        refine gd_bipush hC dX4_isTyped_53 rfl ?_
        refine gd_icmp_ne hC dX4_isTyped_55 (tgt := 95) (by decide) ⟨by omega, by omega⟩ ⟨by decide, by decide⟩ (fun c21 => ?_) (fun c21 => ?_)
        · skip
          refine gd_iconst hC dX4_isTyped_95 ?_
          exact gd_ireturn hC hr (zz_nb (by omega)) hlk dX4_isTyped_96 (by decide) ⟨_, ⟨by decide, by decide⟩, rfl, (by first | rfl | ((repeat' split) <;> first | rfl | omega)), (by unfold zz_mty; omega), (zz_mty_01 _ _ _)⟩
        · skip
          refine gd_aload_n hC dX4_isTyped_58 rfl (j := 0) rfl ?_
          refine gd_getR hC w4 hK (ci := 4) rfl (by decide) rfl 1 (by decide) (j := 78) rfl f7 rfl dX4_isTyped_59 ?_
          refine gd_iconst hC dX4_isTyped_62 ?_
          refine gd_iald hC hK (j := 2) rfl (by decide) rfl (by omega) (by decide) dX4_isTyped_63 (fun r22 => ?_)
          obtain ⟨r22a, r22b⟩ := id r22
          refine gd_bipush hC dX4_isTyped_64 rfl ?_
          refine gd_icmp_ne hC dX4_isTyped_66 (tgt := 95) (by decide) ⟨by omega, by omega⟩ ⟨by decide, by decide⟩ (fun c23 => ?_) (fun c23 => ?_)
          · skip
            refine gd_iconst hC dX4_isTyped_95 ?_
            exact gd_ireturn hC hr (zz_nb (by omega)) hlk dX4_isTyped_96 (by decide) ⟨_, ⟨by decide, by decide⟩, rfl, (by first | rfl | ((repeat' split) <;> first | rfl | omega)), (by unfold zz_mty; omega), (zz_mty_01 _ _ _)⟩
          · skip
            refine gd_aload_n hC dX4_isTyped_69 rfl (j := 0) rfl ?_
            refine gd_getR hC w4 hK (ci := 4) rfl (by decide) rfl 1 (by decide) (j := 78) rfl f7 rfl dX4_isTyped_70 ?_
            refine gd_iconst hC dX4_isTyped_73 ?_
            refine gd_iald hC hK (j := 3) rfl (by decide) rfl (by omega) (by decide) dX4_isTyped_74 (fun r24 => ?_)
            obtain ⟨r24a, r24b⟩ := id r24
            refine gd_bipush hC dX4_isTyped_75 rfl ?_
            refine gd_icmp_ne hC dX4_isTyped_77 (tgt := 95) (by decide) ⟨by omega, by omega⟩ ⟨by decide, by decide⟩ (fun c25 => ?_) (fun c25 => ?_)
            · skip
              refine gd_iconst hC dX4_isTyped_95 ?_
              exact gd_ireturn hC hr (zz_nb (by omega)) hlk dX4_isTyped_96 (by decide) ⟨_, ⟨by decide, by decide⟩, rfl, (by first | rfl | ((repeat' split) <;> first | rfl | omega)), (by unfold zz_mty; omega), (zz_mty_01 _ _ _)⟩
            · skip
              refine gd_aload_n hC dX4_isTyped_80 rfl (j := 0) rfl ?_
              refine gd_getR hC w4 hK (ci := 4) rfl (by decide) rfl 1 (by decide) (j := 78) rfl f7 rfl dX4_isTyped_81 ?_
              refine gd_iconst hC dX4_isTyped_84 ?_
              refine gd_iald hC hK (j := 4) rfl (by decide) rfl (by omega) (by decide) dX4_isTyped_85 (fun r26 => ?_)
              obtain ⟨r26a, r26b⟩ := id r26
              refine gd_bipush hC dX4_isTyped_86 rfl ?_
              refine gd_icmp_ne hC dX4_isTyped_88 (tgt := 95) (by decide) ⟨by omega, by omega⟩ ⟨by decide, by decide⟩ (fun c27 => ?_) (fun c27 => ?_)
              · skip
                refine gd_iconst hC dX4_isTyped_95 ?_
                exact gd_ireturn hC hr (zz_nb (by omega)) hlk dX4_isTyped_96 (by decide) ⟨_, ⟨by decide, by decide⟩, rfl, (by first | rfl | ((repeat' split) <;> first | rfl | omega)), (by unfold zz_mty; omega), (zz_mty_01 _ _ _)⟩
              · skip
                refine gd_iconst hC dX4_isTyped_91 ?_
                refine gd_goto hC dX4_isTyped_92 (tgt := 96) (by decide) ?_
                exact gd_ireturn hC hr (zz_nb (by omega)) hlk dX4_isTyped_96 (by decide) ⟨_, ⟨by decide, by decide⟩, rfl, (by first | rfl | ((repeat' split) <;> first | rfl | omega)), (by unfold zz_mty; omega), (zz_mty_01 _ _ _)⟩
  · skip
    refine gd_tableIn hC dX4_isTyped_1 1 c1 ⟨by decide, by decide⟩ (by decide) (by decide) rfl (tgt := 97) (by decide) ?_
    refine gd_aload_n hC dX4_isTyped_97 rfl (j := 0) rfl ?_
    refine gd_getI hC w4 hK (ci := 4) rfl (by decide) rfl 2 (by decide) rfl f96 rfl dX4_isTyped_98 (fun r28 => ?_)
    obtain ⟨r28a, r28b⟩ := id r28
    refine gd_bipush hC dX4_isTyped_101 rfl ?_
    refine gd_icmp_ne hC dX4_isTyped_103 (tgt := 188) (by decide) ⟨by omega, by omega⟩ ⟨by decide, by decide⟩ (fun c29 => ?_) (fun c29 => ?_)
    · skip
      refine gd_iconst hC dX4_isTyped_188 ?_
      exact gd_ireturn hC hr (zz_nb (by omega)) hlk dX4_isTyped_189 (by decide) ⟨_, ⟨by decide, by decide⟩, rfl, (by first | rfl | ((repeat' split) <;> first | rfl | omega)), (by unfold zz_mty; omega), (zz_mty_01 _ _ _)⟩
    · skip
      refine gd_aload_n hC dX4_isTyped_106 rfl (j := 0) rfl ?_
      refine gd_getR hC w4 hK (ci := 4) rfl (by decide) rfl 1 (by decide) (j := 78) rfl f7 rfl dX4_isTyped_107 ?_
      refine gd_iconst hC dX4_isTyped_110 ?_
      refine gd_iald hC hK (j := 0) rfl (by decide) rfl (by omega) (by decide) dX4_isTyped_111 (fun r30 => ?_)
      obtain ⟨r30a, r30b⟩ := id r30
      refine gd_bipush hC dX4_isTyped_112 rfl ?_
      refine gd_icmp_ne hC dX4_isTyped_114 (tgt := 188) (by decide) ⟨by omega, by omega⟩ ⟨by decide, by decide⟩ (fun c31 => ?_) (fun c31 => ?_)
      · skip
        refine gd_iconst hC dX4_isTyped_188 ?_
        exact gd_ireturn hC hr (zz_nb (by omega)) hlk dX4_isTyped_189 (by decide) ⟨_, ⟨by decide, by decide⟩, rfl, (by first | rfl | ((repeat' split) <;> first | rfl | omega)), (by unfold zz_mty; omega), (zz_mty_01 _ _ _)⟩
      · skip
        refine gd_aload_n hC dX4_isTyped_117 rfl (j := 0) rfl ?_
        refine gd_getR hC w4 hK (ci := 4) rfl (by decide) rfl 1 (by decide) (j := 78) rfl f7 rfl dX4_isTyped_118 ?_
        refine gd_iconst hC dX4_isTyped_121 ?_
        refine gd_iald hC hK (j := 1) rfl (by decide) rfl (by omega) (by decide) dX4_isTyped_122 (fun r32 => ?_)
        obtain ⟨r32a, r32b⟩ := id r32
        refine gd_bipush hC dX4_isTyped_123 rfl ?_
        refine gd_icmp_ne hC dX4_isTyped_125 (tgt := 188) (by decide) ⟨by omega, by omega⟩ ⟨by decide, by decide⟩ (fun c33 => ?_) (fun c33 => ?_)
        · skip
          refine gd_iconst hC dX4_isTyped_188 ?_
          exact gd_ireturn hC hr (zz_nb (by omega)) hlk dX4_isTyped_189 (by decide) ⟨_, ⟨by decide, by decide⟩, rfl, (by first | rfl | ((repeat' split) <;> first | rfl | omega)), (by unfold zz_mty; omega), (zz_mty_01 _ _ _)⟩
        · skip
          refine gd_aload_n hC dX4_isTyped_128 rfl (j := 0) rfl ?_
          refine gd_getR hC w4 hK (ci := 4) rfl (by decide) rfl 1 (by decide) (j := 78) rfl f7 rfl dX4_isTyped_129 ?_
          refine gd_iconst hC dX4_isTyped_132 ?_
          refine gd_iald hC hK (j := 2) rfl (by decide) rfl (by omega) (by decide) dX4_isTyped_133 (fun r34 => ?_)
          obtain ⟨r34a, r34b⟩ := id r34
          refine gd_bipush hC dX4_isTyped_134 rfl ?_
          refine gd_icmp_ne hC dX4_isTyped_136 (tgt := 188) (by decide) ⟨by omega, by omega⟩ ⟨by decide, by decide⟩ (fun c35 => ?_) (fun c35 => ?_)
          · skip
            refine gd_iconst hC dX4_isTyped_188 ?_
            exact gd_ireturn hC hr (zz_nb (by omega)) hlk dX4_isTyped_189 (by decide) ⟨_, ⟨by decide, by decide⟩, rfl, (by first | rfl | ((repeat' split) <;> first | rfl | omega)), (by unfold zz_mty; omega), (zz_mty_01 _ _ _)⟩
          · skip
            refine gd_aload_n hC dX4_isTyped_139 rfl (j := 0) rfl ?_
            refine gd_getR hC w4 hK (ci := 4) rfl (by decide) rfl 1 (by decide) (j := 78) rfl f7 rfl dX4_isTyped_140 ?_
            refine gd_iconst hC dX4_isTyped_143 ?_
            refine gd_iald hC hK (j := 3) rfl (by decide) rfl (by omega) (by decide) dX4_isTyped_144 (fun r36 => ?_)
            obtain ⟨r36a, r36b⟩ := id r36
            refine gd_bipush hC dX4_isTyped_145 rfl ?_
            refine gd_icmp_ne hC dX4_isTyped_147 (tgt := 188) (by decide) ⟨by omega, by omega⟩ ⟨by decide, by decide⟩ (fun c37 => ?_) (fun c37 => ?_)
            · skip
              refine gd_iconst hC dX4_isTyped_188 ?_
              exact gd_ireturn hC hr (zz_nb (by omega)) hlk dX4_isTyped_189 (by decide) ⟨_, ⟨by decide, by decide⟩, rfl, (by first | rfl | ((repeat' split) <;> first | rfl | omega)), (by unfold zz_mty; omega), (zz_mty_01 _ _ _)⟩
            · skip
              refine gd_aload_n hC dX4_isTyped_150 rfl (j := 0) rfl ?_
              refine gd_getR hC w4 hK (ci := 4) rfl (by decide) rfl 1 (by decide) (j := 78) rfl f7 rfl dX4_isTyped_151 ?_
              refine gd_iconst hC dX4_isTyped_154 ?_
              refine gd_iald hC hK (j := 4) rfl (by decide) rfl (by omega) (by decide) dX4_isTyped_155 (fun r38 => ?_)
              obtain ⟨r38a, r38b⟩ := id r38
              refine gd_bipush hC dX4_isTyped_156 rfl ?_
              refine gd_icmp_ne hC dX4_isTyped_158 (tgt := 188) (by decide) ⟨by omega, by omega⟩ ⟨by decide, by decide⟩ (fun c39 => ?_) (fun c39 => ?_)
              · skip
                refine gd_iconst hC dX4_isTyped_188 ?_
                exact gd_ireturn hC hr (zz_nb (by omega)) hlk dX4_isTyped_189 (by decide) ⟨_, ⟨by decide, by decide⟩, rfl, (by first | rfl | ((repeat' split) <;> first | rfl | omega)), (by unfold zz_mty; omega), (zz_mty_01 _ _ _)⟩
              · skip
                refine gd_aload_n hC dX4_isTyped_161 rfl (j := 0) rfl ?_
                refine gd_getR hC w4 hK (ci := 4) rfl (by decide) rfl 1 (by decide) (j := 78) rfl f7 rfl dX4_isTyped_162 ?_
                refine gd_iconst hC dX4_isTyped_165 ?_
                refine gd_iald hC hK (j := 5) rfl (by decide) rfl (by omega) (by decide) dX4_isTyped_166 (fun r40 => ?_)
                obtain ⟨r40a, r40b⟩ := id r40
                refine gd_bipush hC dX4_isTyped_167 rfl ?_
                refine gd_icmp_ne hC dX4_isTyped_169 (tgt := 188) (by decide) ⟨by omega, by omega⟩ ⟨by decide, by decide⟩ (fun c41 => ?_) (fun c41 => ?_)
                · skip
                  refine gd_iconst hC dX4_isTyped_188 ?_
                  exact gd_ireturn hC hr (zz_nb (by omega)) hlk dX4_isTyped_189 (by decide) ⟨_, ⟨by decide, by decide⟩, rfl, (by first | rfl | ((repeat' split) <;> first | rfl | omega)), (by unfold zz_mty; omega), (zz_mty_01 _ _ _)⟩
                · skip
                  refine gd_aload_n hC dX4_isTyped_172 rfl (j := 0) rfl ?_
                  refine gd_getR hC w4 hK (ci := 4) rfl (by decide) rfl 1 (by decide) (j := 78) rfl f7 rfl dX4_isTyped_173 ?_
                  refine gd_bipush hC dX4_isTyped_176 rfl ?_
                  refine gd_iald hC hK (j := 6) rfl (by decide) rfl (by omega) (by decide) dX4_isTyped_178 (fun r42 => ?_)
                  obtain ⟨r42a, r42b⟩ := id r42
                  refine gd_bipush hC dX4_isTyped_179 rfl ?_
                  refine gd_icmp_ne hC dX4_isTyped_181 (tgt := 188) (by decide) ⟨by omega, by omega⟩ ⟨by decide, by decide⟩ (fun c43 => ?_) (fun c43 => ?_)
                  · skip
                    refine gd_iconst hC dX4_isTyped_188 ?_
                    exact gd_ireturn hC hr (zz_nb (by omega)) hlk dX4_isTyped_189 (by decide) ⟨_, ⟨by decide, by decide⟩, rfl, (by first | rfl | ((repeat' split) <;> first | rfl | omega)), (by unfold zz_mty; omega), (zz_mty_01 _ _ _)⟩
                  · skip
                    refine gd_iconst hC dX4_isTyped_184 ?_
                    refine gd_goto hC dX4_isTyped_185 (tgt := 189) (by decide) ?_
                    exact gd_ireturn hC hr (zz_nb (by omega)) hlk dX4_isTyped_189 (by decide) ⟨_, ⟨by decide, by decide⟩, rfl, (by first | rfl | ((repeat' split) <;> first | rfl | omega)), (by unfold zz_mty; omega), (zz_mty_01 _ _ _)⟩
  · skip
    refine gd_tableIn hC dX4_isTyped_1 2 c1 ⟨by decide, by decide⟩ (by decide) (by decide) rfl (tgt := 190) (by decide) ?_
    refine gd_aload_n hC dX4_isTyped_190 rfl (j := 0) rfl ?_
    refine gd_getI hC w4 hK (ci := 4) rfl (by decide) rfl 2 (by decide) rfl f96 rfl dX4_isTyped_191 (fun r44 => ?_)
    obtain ⟨r44a, r44b⟩ := id r44
    refine gd_iconst hC dX4_isTyped_194 ?_
    refine gd_icmp_ne hC dX4_isTyped_195 (tgt := 246) (by decide) ⟨by omega, by omega⟩ ⟨by decide, by decide⟩ (fun c45 => ?_) (fun c45 => ?_)
    · skip
      refine gd_iconst hC dX4_isTyped_246 ?_
      exact gd_ireturn hC hr (zz_nb (by omega)) hlk dX4_isTyped_247 (by decide) ⟨_, ⟨by decide, by decide⟩, rfl, (by first | rfl | ((repeat' split) <;> first | rfl | omega)), (by unfold zz_mty; omega), (zz_mty_01 _ _ _)⟩
    · skip
      refine gd_aload_n hC dX4_isTyped_198 rfl (j := 0) rfl ?_
      refine gd_getR hC w4 hK (ci := 4) rfl (by decide) rfl 1 (by decide) (j := 78) rfl f7 rfl dX4_isTyped_199 ?_
      refine gd_iconst hC dX4_isTyped_202 ?_
      refine gd_iald hC hK (j := 0) rfl (by decide) rfl (by omega) (by decide) dX4_isTyped_203 (fun r46 => ?_)
      obtain ⟨r46a, r46b⟩ := id r46
      refine gd_bipush hC dX4_isTyped_204 rfl ?_
      refine gd_icmp_ne hC dX4_isTyped_206 (tgt := 246) (by decide) ⟨by omega, by omega⟩ ⟨by decide, by decide⟩ (fun c47 => ?_) (fun c47 => ?_)
      · skip
        refine gd_iconst hC dX4_isTyped_246 ?_
        exact gd_ireturn hC hr (zz_nb (by omega)) hlk dX4_isTyped_247 (by decide) ⟨_, ⟨by decide, by decide⟩, rfl, (by first | rfl | ((repeat' split) <;> first | rfl | omega)), (by unfold zz_mty; omega), (zz_mty_01 _ _ _)⟩
      · skip
        refine gd_aload_n hC dX4_isTyped_209 rfl (j := 0) rfl ?_
        refine gd_getR hC w4 hK (ci := 4) rfl (by decide) rfl 1 (by decide) (j := 78) rfl f7 rfl dX4_isTyped_210 ?_
        refine gd_iconst hC dX4_isTyped_213 ?_
        refine gd_iald hC hK (j := 1) rfl (by decide) rfl (by omega) (by decide) dX4_isTyped_214 (fun r48 => ?_)
        obtain ⟨r48a, r48b⟩ := id r48
        refine gd_bipush hC dX4_isTyped_215 rfl ?_
        refine gd_icmp_ne hC dX4_isTyped_217 (tgt := 246) (by decide) ⟨by omega, by omega⟩ ⟨by decide, by decide⟩ (fun c49 => ?_) (fun c49 => ?_)
        · skip
          refine gd_iconst hC dX4_isTyped_246 ?_
          exact gd_ireturn hC hr (zz_nb (by omega)) hlk dX4_isTyped_247 (by decide) ⟨_, ⟨by decide, by decide⟩, rfl, (by first | rfl | ((repeat' split) <;> first | rfl | omega)), (by unfold zz_mty; omega), (zz_mty_01 _ _ _)⟩
        · skip
          refine gd_aload_n hC dX4_isTyped_220 rfl (j := 0) rfl ?_
          refine gd_getR hC w4 hK (ci := 4) rfl (by decide) rfl 1 (by decide) (j := 78) rfl f7 rfl dX4_isTyped_221 ?_
          refine gd_iconst hC dX4_isTyped_224 ?_
          refine gd_iald hC hK (j := 2) rfl (by decide) rfl (by omega) (by decide) dX4_isTyped_225 (fun r50 => ?_)
          obtain ⟨r50a, r50b⟩ := id r50
          refine gd_bipush hC dX4_isTyped_226 rfl ?_
          refine gd_icmp_ne hC dX4_isTyped_228 (tgt := 246) (by decide) ⟨by omega, by omega⟩ ⟨by decide, by decide⟩ (fun c51 => ?_) (fun c51 => ?_)
          · skip
            refine gd_iconst hC dX4_isTyped_246 ?_
            exact gd_ireturn hC hr (zz_nb (by omega)) hlk dX4_isTyped_247 (by decide) ⟨_, ⟨by decide, by decide⟩, rfl, (by first | rfl | ((repeat' split) <;> first | rfl | omega)), (by unfold zz_mty; omega), (zz_mty_01 _ _ _)⟩
          · skip
            refine gd_aload_n hC dX4_isTyped_231 rfl (j := 0) rfl ?_
            refine gd_getR hC w4 hK (ci := 4) rfl (by decide) rfl 1 (by decide) (j := 78) rfl f7 rfl dX4_isTyped_232 ?_
            refine gd_iconst hC dX4_isTyped_235 ?_
            refine gd_iald hC hK (j := 3) rfl (by decide) rfl (by omega) (by decide) dX4_isTyped_236 (fun r52 => ?_)
            obtain ⟨r52a, r52b⟩ := id r52
            refine gd_bipush hC dX4_isTyped_237 rfl ?_
            refine gd_icmp_ne hC dX4_isTyped_239 (tgt := 246) (by decide) ⟨by omega, by omega⟩ ⟨by decide, by decide⟩ (fun c53 => ?_) (fun c53 => ?_)
            · skip
              refine gd_iconst hC dX4_isTyped_246 ?_
              exact gd_ireturn hC hr (zz_nb (by omega)) hlk dX4_isTyped_247 (by decide) ⟨_, ⟨by decide, by decide⟩, rfl, (by first | rfl | ((repeat' split) <;> first | rfl | omega)), (by unfold zz_mty; omega), (zz_mty_01 _ _ _)⟩
            · skip
              refine gd_iconst hC dX4_isTyped_242 ?_
              refine gd_goto hC dX4_isTyped_243 (tgt := 247) (by decide) ?_
              exact gd_ireturn hC hr (zz_nb (by omega)) hlk dX4_isTyped_247 (by decide) ⟨_, ⟨by decide, by decide⟩, rfl, (by first | rfl | ((repeat' split) <;> first | rfl | omega)), (by unfold zz_mty; omega), (zz_mty_01 _ _ _)⟩

abbrev rm_X4_whoseOn : Room := { frames := 0, cells := 0, slots := 0, locals := 0 }
set_option maxHeartbeats 4000000 in
set_option maxRecDepth 100000 in
theorem c_X4_whoseOn (l : Launch) (hl9 : l.stackTraces = false) (N0 : Nat) (G : zz_G) (Y : zz_Y) (a : Nat → Nat) (S : zz_S) (x d : Int) (hx : 0 ≤ x ∧ x ≤ 9) (hd : 0 ≤ d ∧ d ≤ 5000) (iaf : zz_rr S 80 50010 0 10) : CtR l yX4_whoseOn wsX4_whoseOn rm_X4_whoseOn 0 [.ref (a 77), zz_v x, zz_v d] N0 G Y a S (zz_mwo (S 80) d 10 x) (S) (0 ≤ zz_mwo (S 80) d 10 x ∧ zz_mwo (S 80) d 10 x ≤ 9) (False) (False) (False) := by
  refine Ct_.of (cc := cX4_whoseOn) (maxL := 5) (ret := (some .int)) (by decide) rfl (Nat.le_of_ble_eq_true rfl) ?_
  intro p e s m args below meth c hC hts hr hlk hex hF
  have hK := hF.2.1
  have w4 : ∀ w ∈ u_ws RX4 TX4 27, w.before args s = true := fun w h => hts w (List.mem_cons_of_mem _ (List.mem_append_right _ h))
  have f17 : (Cond.fieldLink RX4 17 "GrievancehallModel" "actsFor" "[I").before args s = true := hts _ (by decide +kernel)
  refine gd_lveq (lv' := [(0, .ref (a 77)), (1, zz_v x), (2, zz_v d)]) rfl ?_
  have hwr := zz_mwo_rng hd iaf 10 x hx
  refine gd_iload_n hC dX4_whoseOn_0 rfl (j := 1) rfl ?_
  refine gd_istore_n hC dX4_whoseOn_1 rfl (by decide) (lv' := [(3, zz_v x), (0, .ref (a 77)), (1, zz_v x), (2, zz_v d)]) rfl ?_
  refine gd_iconst hC dX4_whoseOn_2 ?_
  refine gd_istore hC dX4_whoseOn_3 (by decide) (lv' := [(4, zz_v 0), (3, zz_v x), (0, .ref (a 77)), (1, zz_v x), (2, zz_v d)]) rfl ?_
  refine gd_sub [2, 4, 1, 0] (lv' := [(0, .ref (a 77)), (2, zz_v d), (3, zz_v x), (4, zz_v 0)]) rfl ?_
  refine gd_loop (σ := Nat × Int) (μ := fun vz => vz.1) (I := fun vz => (vz.1 ≤ 10) ∧ (0 ≤ vz.2 ∧ vz.2 ≤ 9) ∧ (zz_mwo (S 80) d 10 x = zz_mwo (S 80) d vz.1 vz.2)) (Sf := fun vz => S) (lf := fun vz => [(0, .ref (a 77)), (2, zz_v d), (3, zz_v vz.2), (4, zz_v (10 - (vz.1 : Int)))]) (10, x) (⟨by omega, hx, rfl⟩) rfl rfl (fun ⟨m, o⟩ hI ih5 => ?_)
  obtain ⟨hI0, hI1, hI2⟩ : (m ≤ 10) ∧ (0 ≤ o ∧ o ≤ 9) ∧ (zz_mwo (S 80) d 10 x = zz_mwo (S 80) d m o) := hI
  refine gd_lveq (lv' := [(0, .ref (a 77)), (2, zz_v d), (3, zz_v o), (4, zz_v (10 - (m : Int)))]) rfl ?_
  refine gd_eq (S' := S) rfl ?_
  have haj := iaf (5001 * o + d).toNat (by omega)
  refine gd_iload hC dX4_whoseOn_5 (j := 3) rfl ?_
  refine gd_bipush hC dX4_whoseOn_7 rfl ?_
  refine gd_icmp_ge hC dX4_whoseOn_9 (tgt := 48) (by decide) ⟨by omega, by omega⟩ ⟨by decide, by decide⟩ (fun c1 => ?_) (fun c1 => ?_)
  · skip
    refine gd_iload_n hC dX4_whoseOn_48 rfl (j := 2) rfl ?_
    exact gd_ireturn hC hr rfl hlk dX4_whoseOn_49 (by decide) ⟨_, ⟨by omega, by omega⟩, rfl, (by first | rfl | ((repeat' split) <;> first | rfl | omega)), (by first | (rw [hI2, show m = 0 by omega]; rfl) | (rw [hI2]; obtain ⟨n, rfl⟩ : ∃ n, m = n + 1 := ⟨m - 1, by omega⟩; rw [zz_mwo, if_pos (by omega)])), (by omega)⟩
  · skip
    refine gd_aload_n hC dX4_whoseOn_12 rfl (j := 0) rfl ?_
    refine gd_getR hC w4 hK (ci := 4) rfl (by decide) rfl 5 (by decide) (j := 80) rfl f17 rfl dX4_whoseOn_13 ?_
    refine gd_sipush hC dX4_whoseOn_16 rfl ?_
    refine gd_iload_n hC dX4_whoseOn_19 rfl (j := 2) rfl ?_
    refine gd_imul hC dX4_whoseOn_20 ?_
    refine gd_iload_n hC dX4_whoseOn_21 rfl (j := 1) rfl ?_
    refine gd_iadd hC dX4_whoseOn_22 ?_
    refine gd_iald hC hK (j := ((5001 * o) + d).toNat) rfl (by decide) (by omega) (by omega) (by decide) dX4_whoseOn_23 (fun r2 => ?_)
    obtain ⟨r2a, r2b⟩ := id r2
    refine gd_if_le hC dX4_whoseOn_24 (tgt := 48) (by decide) ⟨by omega, by omega⟩ (fun c3 => ?_) (fun c3 => ?_)
    · skip
      refine gd_iload_n hC dX4_whoseOn_48 rfl (j := 2) rfl ?_
      exact gd_ireturn hC hr rfl hlk dX4_whoseOn_49 (by decide) ⟨_, ⟨by omega, by omega⟩, rfl, (by first | rfl | ((repeat' split) <;> first | rfl | omega)), (by first | (rw [hI2, show m = 0 by omega]; rfl) | (rw [hI2]; obtain ⟨n, rfl⟩ : ∃ n, m = n + 1 := ⟨m - 1, by omega⟩; rw [zz_mwo, if_pos (by omega)])), (by omega)⟩
    · skip
      refine gd_aload_n hC dX4_whoseOn_27 rfl (j := 0) rfl ?_
      refine gd_getR hC w4 hK (ci := 4) rfl (by decide) rfl 5 (by decide) (j := 80) rfl f17 rfl dX4_whoseOn_28 ?_
      refine gd_sipush hC dX4_whoseOn_31 rfl ?_
      refine gd_iload_n hC dX4_whoseOn_34 rfl (j := 2) rfl ?_
      refine gd_imul hC dX4_whoseOn_35 ?_
      refine gd_iload_n hC dX4_whoseOn_36 rfl (j := 1) rfl ?_
      refine gd_iadd hC dX4_whoseOn_37 ?_
      refine gd_iald hC hK (j := ((5001 * o) + d).toNat) rfl (by decide) (by omega) (by omega) (by decide) dX4_whoseOn_38 (fun r4 => ?_)
      obtain ⟨r4a, r4b⟩ := id r4
      refine gd_iconst hC dX4_whoseOn_39 ?_
      refine gd_isub hC dX4_whoseOn_40 ?_
      refine gd_istore_n hC dX4_whoseOn_41 rfl (by decide) (lv' := [(3, zz_v ((S 80 (((5001 * o) + d).toNat)) - 1)), (0, .ref (a 77)), (2, zz_v d), (4, zz_v (10 - (m : Int)))]) rfl ?_
      refine gd_iinc hC dX4_whoseOn_42 (j := 3) rfl (y := 10 - (m : Int) + 1) (by omega) (by decide) (lv' := [(4, zz_v (10 - (m : Int) + 1)), (3, zz_v ((S 80 (((5001 * o) + d).toNat)) - 1)), (0, .ref (a 77)), (2, zz_v d)]) rfl ?_
      refine gd_goto hC dX4_whoseOn_45 (tgt := 5) (by decide) ?_
      refine gd_sub [2, 3, 1, 0] (lv' := [(0, .ref (a 77)), (2, zz_v d), (3, zz_v ((S 80 (((5001 * o) + d).toNat)) - 1)), (4, zz_v (10 - (m : Int) + 1))]) rfl ?_
      refine gd_lveq (lv' := [(0, .ref (a 77)), (2, zz_v d), (3, zz_v (S 80 (5001 * o + d).toNat - 1)), (4, zz_v (10 - (((m - 1) : Nat) : Int)))]) (by rw [show 10 - (m : Int) + 1 = 10 - ((m - 1 : Nat) : Int) by omega]) ?_
      exact ih5 ((m - 1), (S 80 (5001 * o + d).toNat - 1)) ⟨by omega, by omega, by rw [hI2]; obtain ⟨n, rfl⟩ : ∃ n, m = n + 1 := ⟨m - 1, by omega⟩; rw [zz_mwo, if_neg (by omega)]; rfl⟩ (show (m - 1) < m by omega)

abbrev rm_X4_areLike : Room := { frames := 0, cells := 0, slots := 0, locals := 0 }
set_option maxHeartbeats 4000000 in
set_option maxRecDepth 100000 in
theorem c_X4_areLike (l : Launch) (hl9 : l.stackTraces = false) (N0 : Nat) (G : zz_G) (Y : zz_Y) (a : Nat → Nat) (S : zz_S) (x y : Int) (i j : Nat) (hi : x = (i : Int)) (hj : y = (j : Int)) (hi2 : i < 24) (hj2 : j < 24) : CtR l yX4_areLike wsX4_areLike rm_X4_areLike 0 [.ref (a 77), zz_v x, zz_v y] N0 G Y a S (zz_mli (S 83) (S 82) i j) (S) (zz_mli (S 83) (S 82) i j = 0 ∨ zz_mli (S 83) (S 82) i j = 1) (False) (False) (False) := by
  refine Ct_.of (cc := cX4_areLike) (maxL := 3) (ret := (some .boolean)) (by decide) rfl (Nat.le_of_ble_eq_true rfl) ?_
  intro p e s m args below meth c hC hts hr hlk hex hF
  have hK := hF.2.1
  have w4 : ∀ w ∈ u_ws RX4 TX4 27, w.before args s = true := fun w h => hts w (List.mem_cons_of_mem _ (List.mem_append_right _ h))
  have f23 : (Cond.fieldLink RX4 23 "GrievancehallModel" "whoseAct" "[I").before args s = true := hts _ (by decide +kernel)
  have f26 : (Cond.fieldLink RX4 26 "GrievancehallModel" "kind" "[I").before args s = true := hts _ (by decide +kernel)
  refine gd_lveq (lv' := [(0, .ref (a 77)), (1, zz_v x), (2, zz_v y)]) rfl ?_
  refine gd_iload_n hC dX4_areLike_0 rfl (j := 1) rfl ?_
  refine gd_iload_n hC dX4_areLike_1 rfl (j := 2) rfl ?_
  refine gd_icmp_eq hC dX4_areLike_2 (tgt := 39) (by decide) ⟨by omega, by omega⟩ ⟨by omega, by omega⟩ (fun c1 => ?_) (fun c1 => ?_)
  · skip
    refine gd_iconst hC dX4_areLike_39 ?_
    exact gd_ireturn hC hr (zz_nb (by omega)) hlk dX4_areLike_40 (by decide) ⟨_, ⟨by decide, by decide⟩, rfl, (by first | rfl | ((repeat' split) <;> first | rfl | omega)), (by unfold zz_mli; omega), (zz_mli_01 _ _ _ _)⟩
  · skip
    refine gd_aload_n hC dX4_areLike_5 rfl (j := 0) rfl ?_
    refine gd_getR hC w4 hK (ci := 4) rfl (by decide) rfl 9 (by decide) (j := 83) rfl f26 rfl dX4_areLike_6 ?_
    refine gd_iload_n hC dX4_areLike_9 rfl (j := 1) rfl ?_
    refine gd_iald hC hK (j := i) rfl (by decide) hi (by omega) (by decide) dX4_areLike_10 (fun r2 => ?_)
    obtain ⟨r2a, r2b⟩ := id r2
    refine gd_aload_n hC dX4_areLike_11 rfl (j := 0) rfl ?_
    refine gd_getR hC w4 hK (ci := 4) rfl (by decide) rfl 9 (by decide) (j := 83) rfl f26 rfl dX4_areLike_12 ?_
    refine gd_iload_n hC dX4_areLike_15 rfl (j := 2) rfl ?_
    refine gd_iald hC hK (j := j) rfl (by decide) hj (by omega) (by decide) dX4_areLike_16 (fun r3 => ?_)
    obtain ⟨r3a, r3b⟩ := id r3
    refine gd_icmp_ne hC dX4_areLike_17 (tgt := 39) (by decide) ⟨by omega, by omega⟩ ⟨by omega, by omega⟩ (fun c4 => ?_) (fun c4 => ?_)
    · skip
      refine gd_iconst hC dX4_areLike_39 ?_
      exact gd_ireturn hC hr (zz_nb (by omega)) hlk dX4_areLike_40 (by decide) ⟨_, ⟨by decide, by decide⟩, rfl, (by first | rfl | ((repeat' split) <;> first | rfl | omega)), (by unfold zz_mli; omega), (zz_mli_01 _ _ _ _)⟩
    · skip
      refine gd_aload_n hC dX4_areLike_20 rfl (j := 0) rfl ?_
      refine gd_getR hC w4 hK (ci := 4) rfl (by decide) rfl 8 (by decide) (j := 82) rfl f23 rfl dX4_areLike_21 ?_
      refine gd_iload_n hC dX4_areLike_24 rfl (j := 1) rfl ?_
      refine gd_iald hC hK (j := i) rfl (by decide) hi (by omega) (by decide) dX4_areLike_25 (fun r5 => ?_)
      obtain ⟨r5a, r5b⟩ := id r5
      refine gd_aload_n hC dX4_areLike_26 rfl (j := 0) rfl ?_
      refine gd_getR hC w4 hK (ci := 4) rfl (by decide) rfl 8 (by decide) (j := 82) rfl f23 rfl dX4_areLike_27 ?_
      refine gd_iload_n hC dX4_areLike_30 rfl (j := 2) rfl ?_
      refine gd_iald hC hK (j := j) rfl (by decide) hj (by omega) (by decide) dX4_areLike_31 (fun r6 => ?_)
      obtain ⟨r6a, r6b⟩ := id r6
      refine gd_icmp_ne hC dX4_areLike_32 (tgt := 39) (by decide) ⟨by omega, by omega⟩ ⟨by omega, by omega⟩ (fun c7 => ?_) (fun c7 => ?_)
      · skip
        refine gd_iconst hC dX4_areLike_39 ?_
        exact gd_ireturn hC hr (zz_nb (by omega)) hlk dX4_areLike_40 (by decide) ⟨_, ⟨by decide, by decide⟩, rfl, (by first | rfl | ((repeat' split) <;> first | rfl | omega)), (by unfold zz_mli; omega), (zz_mli_01 _ _ _ _)⟩
      · skip
        refine gd_iconst hC dX4_areLike_35 ?_
        refine gd_goto hC dX4_areLike_36 (tgt := 40) (by decide) ?_
        exact gd_ireturn hC hr (zz_nb (by omega)) hlk dX4_areLike_40 (by decide) ⟨_, ⟨by decide, by decide⟩, rfl, (by first | rfl | ((repeat' split) <;> first | rfl | omega)), (by unfold zz_mli; omega), (zz_mli_01 _ _ _ _)⟩

abbrev rm_X4_likesOf : Room := { frames := 1, cells := 0, slots := 0, locals := 22 }
set_option maxHeartbeats 4000000 in
set_option maxRecDepth 100000 in
theorem c_X4_likesOf (l : Launch) (hl9 : l.stackTraces = false) (N0 : Nat) (G : zz_G) (Y : zz_Y) (a : Nat → Nat) (S : zz_S) (x : Int) (i : Nat) (hi : x = (i : Int)) (hi2 : i < 24) (hn : 0 ≤ S 77 7 ∧ S 77 7 ≤ 24) : CtR l yX4_likesOf wsX4_likesOf rm_X4_likesOf 0 [.ref (a 77), zz_v x] N0 G Y a S (zz_mln (S 83) (S 82) i (S 77 7).toNat) (S) (0 ≤ zz_mln (S 83) (S 82) i (S 77 7).toNat ∧ zz_mln (S 83) (S 82) i (S 77 7).toNat ≤ 24) (False) (False) (False) := by
  refine Ct_.of (cc := cX4_likesOf) (maxL := 4) (ret := (some .int)) (by decide) rfl (Nat.le_of_ble_eq_true rfl) ?_
  intro p e s m args below meth c hC hts hr hlk hex hF
  have hK := hF.2.1
  have w4 : ∀ w ∈ u_ws RX4 TX4 27, w.before args s = true := fun w h => hts w (List.mem_cons_of_mem _ (List.mem_append_right _ h))
  have f86 : (Cond.fieldLink RX4 86 "GrievancehallModel" "acts" "I").before args s = true := hts _ (by decide +kernel)
  refine gd_lveq (lv' := [(0, .ref (a 77)), (1, zz_v x)]) rfl ?_
  refine gd_iconst hC dX4_likesOf_0 ?_
  refine gd_istore_n hC dX4_likesOf_1 rfl (by decide) (lv' := [(2, zz_v 0), (0, .ref (a 77)), (1, zz_v x)]) rfl ?_
  refine gd_iconst hC dX4_likesOf_2 ?_
  refine gd_istore_n hC dX4_likesOf_3 rfl (by decide) (lv' := [(3, zz_v 0), (2, zz_v 0), (0, .ref (a 77)), (1, zz_v x)]) rfl ?_
  refine gd_sub [2, 3, 1, 0] (lv' := [(0, .ref (a 77)), (1, zz_v x), (2, zz_v 0), (3, zz_v 0)]) rfl ?_
  refine gd_loop (σ := Nat) (μ := fun vz => (S 77 7).toNat - vz) (I := fun vz => (vz ≤ (S 77 7).toNat)) (Sf := fun vz => S) (lf := fun vz => [(0, .ref (a 77)), (1, zz_v x), (2, zz_v (zz_mln (S 83) (S 82) i vz)), (3, zz_v (vz : Int))]) 0 (by omega) rfl rfl (fun j hI ih4 => ?_)
  have hI0 : j ≤ (S 77 7).toNat := hI
  refine gd_lveq (lv' := [(0, .ref (a 77)), (1, zz_v x), (2, zz_v (zz_mln (S 83) (S 82) i j)), (3, zz_v (j : Int))]) rfl ?_
  refine gd_eq (S' := S) rfl ?_
  have hrg := zz_mln_rng (S 83) (S 82) i j
  refine gd_iload_n hC dX4_likesOf_4 rfl (j := 3) rfl ?_
  refine gd_aload_n hC dX4_likesOf_5 rfl (j := 0) rfl ?_
  refine gd_getI hC w4 hK (ci := 4) rfl (by decide) rfl 7 (by decide) rfl f86 rfl dX4_likesOf_6 (fun r1 => ?_)
  obtain ⟨r1a, r1b⟩ := id r1
  refine gd_icmp_ge hC dX4_likesOf_9 (tgt := 35) (by decide) ⟨by omega, by omega⟩ ⟨by omega, by omega⟩ (fun c2 => ?_) (fun c2 => ?_)
  · skip
    refine gd_iload_n hC dX4_likesOf_35 rfl (j := 2) rfl ?_
    exact gd_ireturn hC hr rfl hlk dX4_likesOf_36 (by decide) ⟨_, ⟨by omega, by omega⟩, rfl, (by first | rfl | ((repeat' split) <;> first | rfl | omega)), (by rw [show (S 77 7).toNat = j by omega]), (by rw [show (S 77 7).toNat = j by omega]; omega)⟩
  · skip
    refine gd_iload_n hC dX4_likesOf_12 rfl (j := 2) rfl ?_
    refine gd_aload_n hC dX4_likesOf_13 rfl (j := 0) rfl ?_
    refine gd_iload_n hC dX4_likesOf_14 rfl (j := 1) rfl ?_
    refine gd_iload_n hC dX4_likesOf_15 rfl (j := 3) rfl ?_
    refine gd_callVR (As := [zz_v x, zz_v (j : Int)]) (rest := [zz_v (zz_mln (S 83) (S 82) i j)]) hC hF (fun hR => c_X4_areLike l hl9 N0 G Y a (S) x (j : Int) i j hi rfl (by omega) (by omega)) (cwV 2 hts gX4_likesOf_X4_areLike rfl rfl rfl (by decide +kernel) ⟨by decide, by decide⟩) rfl (by decide) (ci := 4) rfl rfl rfl rfl (Nat.le_of_ble_eq_true rfl) dX4_likesOf_16 ⟨by decide, by decide⟩ (fun E hx => zz_xn hx) (fun q3 q3r => ?_)
    obtain ⟨q3a, q3b⟩ := id q3r
    refine gd_if_eq hC dX4_likesOf_19 (tgt := 26) (by decide) ⟨by omega, by omega⟩ (fun c4 => ?_) (fun c4 => ?_)
    · skip
      refine gd_iconst hC dX4_likesOf_26 ?_
      refine gd_iadd hC dX4_likesOf_27 ?_
      refine gd_istore_n hC dX4_likesOf_28 rfl (by decide) (lv' := [(2, zz_v ((zz_mln (S 83) (S 82) i j) + 0)), (0, .ref (a 77)), (1, zz_v x), (3, zz_v (j : Int))]) rfl ?_
      refine gd_iinc hC dX4_likesOf_29 (j := 3) rfl (y := ((j + 1 : Nat) : Int)) (by omega) (by decide) (lv' := [(3, zz_v ((j + 1 : Nat) : Int)), (2, zz_v ((zz_mln (S 83) (S 82) i j) + 0)), (0, .ref (a 77)), (1, zz_v x)]) rfl ?_
      refine gd_goto hC dX4_likesOf_32 (tgt := 4) (by decide) ?_
      refine gd_sub [2, 3, 1, 0] (lv' := [(0, .ref (a 77)), (1, zz_v x), (2, zz_v ((zz_mln (S 83) (S 82) i j) + 0)), (3, zz_v ((j + 1 : Nat) : Int))]) rfl ?_
      have hz : (zz_mln (S 83) (S 82) i j) + 0 = zz_mln (S 83) (S 82) i (j + 1) := by rw [zz_mln]; omega
      refine gd_lveq (lv' := [(0, .ref (a 77)), (1, zz_v x), (2, zz_v (zz_mln (S 83) (S 82) i (j + 1))), (3, zz_v (((j + 1) : Nat) : Int))]) (by rw [hz]) ?_
      exact ih4 (j + 1) (by omega) (show (S 77 7).toNat - (j + 1) < (S 77 7).toNat - j by omega)
    · skip
      refine gd_iconst hC dX4_likesOf_22 ?_
      refine gd_goto hC dX4_likesOf_23 (tgt := 27) (by decide) ?_
      refine gd_iadd hC dX4_likesOf_27 ?_
      refine gd_istore_n hC dX4_likesOf_28 rfl (by decide) (lv' := [(2, zz_v ((zz_mln (S 83) (S 82) i j) + 1)), (0, .ref (a 77)), (1, zz_v x), (3, zz_v (j : Int))]) rfl ?_
      refine gd_iinc hC dX4_likesOf_29 (j := 3) rfl (y := ((j + 1 : Nat) : Int)) (by omega) (by decide) (lv' := [(3, zz_v ((j + 1 : Nat) : Int)), (2, zz_v ((zz_mln (S 83) (S 82) i j) + 1)), (0, .ref (a 77)), (1, zz_v x)]) rfl ?_
      refine gd_goto hC dX4_likesOf_32 (tgt := 4) (by decide) ?_
      refine gd_sub [2, 3, 1, 0] (lv' := [(0, .ref (a 77)), (1, zz_v x), (2, zz_v ((zz_mln (S 83) (S 82) i j) + 1)), (3, zz_v ((j + 1 : Nat) : Int))]) rfl ?_
      have hz : (zz_mln (S 83) (S 82) i j) + 1 = zz_mln (S 83) (S 82) i (j + 1) := by rw [zz_mln]; omega
      refine gd_lveq (lv' := [(0, .ref (a 77)), (1, zz_v x), (2, zz_v (zz_mln (S 83) (S 82) i (j + 1))), (3, zz_v (((j + 1) : Nat) : Int))]) (by rw [hz]) ?_
      exact ih4 (j + 1) (by omega) (show (S 77 7).toNat - (j + 1) < (S 77 7).toNat - j by omega)

abbrev rm_X4_doesFail : Room := { frames := 0, cells := 0, slots := 0, locals := 0 }
set_option maxHeartbeats 4000000 in
set_option maxRecDepth 100000 in
theorem c_X4_doesFail (l : Launch) (hl9 : l.stackTraces = false) (N0 : Nat) (G : zz_G) (Y : zz_Y) (a : Nat → Nat) (S : zz_S) (x : Int) (i : Nat) (hi : x = (i : Int)) (hi2 : i < 24) (ikd : zz_rr S 83 24 0 3) (itd : zz_rr S 84 24 0 5000) : CtR l yX4_doesFail wsX4_doesFail rm_X4_doesFail 0 [.ref (a 77), zz_v x] N0 G Y a S (zz_mfr (S 85) (S 81) (S 83) (S 84) i) (S) (zz_mfr (S 85) (S 81) (S 83) (S 84) i = 0 ∨ zz_mfr (S 85) (S 81) (S 83) (S 84) i = 1) (False) (False) (False) := by
  refine Ct_.of (cc := cX4_doesFail) (maxL := 2) (ret := (some .boolean)) (by decide) rfl (Nat.le_of_ble_eq_true rfl) ?_
  intro p e s m args below meth c hC hts hr hlk hex hF
  have hK := hF.2.1
  have w4 : ∀ w ∈ u_ws RX4 TX4 27, w.before args s = true := fun w h => hts w (List.mem_cons_of_mem _ (List.mem_append_right _ h))
  have f20 : (Cond.fieldLink RX4 20 "GrievancehallModel" "limits" "[I").before args s = true := hts _ (by decide +kernel)
  have f26 : (Cond.fieldLink RX4 26 "GrievancehallModel" "kind" "[I").before args s = true := hts _ (by decide +kernel)
  have f29 : (Cond.fieldLink RX4 29 "GrievancehallModel" "told" "[I").before args s = true := hts _ (by decide +kernel)
  have f32 : (Cond.fieldLink RX4 32 "GrievancehallModel" "measure" "[I").before args s = true := hts _ (by decide +kernel)
  refine gd_lveq (lv' := [(0, .ref (a 77)), (1, zz_v x)]) rfl ?_
  have hk1 := ikd i (by omega)
  have ht1 := itd i (by omega)
  refine gd_aload_n hC dX4_doesFail_0 rfl (j := 0) rfl ?_
  refine gd_getR hC w4 hK (ci := 4) rfl (by decide) rfl 11 (by decide) (j := 85) rfl f32 rfl dX4_doesFail_1 ?_
  refine gd_iload_n hC dX4_doesFail_4 rfl (j := 1) rfl ?_
  refine gd_iald hC hK (j := i) rfl (by decide) hi (by omega) (by decide) dX4_doesFail_5 (fun r1 => ?_)
  obtain ⟨r1a, r1b⟩ := id r1
  refine gd_aload_n hC dX4_doesFail_6 rfl (j := 0) rfl ?_
  refine gd_getR hC w4 hK (ci := 4) rfl (by decide) rfl 6 (by decide) (j := 81) rfl f20 rfl dX4_doesFail_7 ?_
  refine gd_sipush hC dX4_doesFail_10 rfl ?_
  refine gd_aload_n hC dX4_doesFail_13 rfl (j := 0) rfl ?_
  refine gd_getR hC w4 hK (ci := 4) rfl (by decide) rfl 9 (by decide) (j := 83) rfl f26 rfl dX4_doesFail_14 ?_
  refine gd_iload_n hC dX4_doesFail_17 rfl (j := 1) rfl ?_
  refine gd_iald hC hK (j := i) rfl (by decide) hi (by omega) (by decide) dX4_doesFail_18 (fun r2 => ?_)
  obtain ⟨r2a, r2b⟩ := id r2
  refine gd_imul hC dX4_doesFail_19 ?_
  refine gd_aload_n hC dX4_doesFail_20 rfl (j := 0) rfl ?_
  refine gd_getR hC w4 hK (ci := 4) rfl (by decide) rfl 10 (by decide) (j := 84) rfl f29 rfl dX4_doesFail_21 ?_
  refine gd_iload_n hC dX4_doesFail_24 rfl (j := 1) rfl ?_
  refine gd_iald hC hK (j := i) rfl (by decide) hi (by omega) (by decide) dX4_doesFail_25 (fun r3 => ?_)
  obtain ⟨r3a, r3b⟩ := id r3
  refine gd_iadd hC dX4_doesFail_26 ?_
  refine gd_iald hC hK (j := ((5001 * (S 83 i)) + (S 84 i)).toNat) rfl (by decide) (by omega) (by omega) (by decide) dX4_doesFail_27 (fun r4 => ?_)
  obtain ⟨r4a, r4b⟩ := id r4
  refine gd_icmp_le hC dX4_doesFail_28 (tgt := 35) (by decide) ⟨by omega, by omega⟩ ⟨by omega, by omega⟩ (fun c5 => ?_) (fun c5 => ?_)
  · skip
    refine gd_iconst hC dX4_doesFail_35 ?_
    exact gd_ireturn hC hr (zz_nb (by omega)) hlk dX4_doesFail_36 (by decide) ⟨_, ⟨by decide, by decide⟩, rfl, (by first | rfl | ((repeat' split) <;> first | rfl | omega)), (by unfold zz_mfr; omega), (zz_mfr_01 _ _ _ _ _)⟩
  · skip
    refine gd_iconst hC dX4_doesFail_31 ?_
    refine gd_goto hC dX4_doesFail_32 (tgt := 36) (by decide) ?_
    exact gd_ireturn hC hr (zz_nb (by omega)) hlk dX4_doesFail_36 (by decide) ⟨_, ⟨by decide, by decide⟩, rfl, (by first | rfl | ((repeat' split) <;> first | rfl | omega)), (by unfold zz_mfr; omega), (zz_mfr_01 _ _ _ _ _)⟩

abbrev rm_X4_isUnequal : Room := { frames := 2, cells := 0, slots := 0, locals := 45 }
set_option maxHeartbeats 4000000 in
set_option maxRecDepth 100000 in
theorem c_X4_isUnequal (l : Launch) (hl9 : l.stackTraces = false) (N0 : Nat) (G : zz_G) (Y : zz_Y) (a : Nat → Nat) (S : zz_S) (x : Int) (i : Nat) (hi : x = (i : Int)) (hi2 : i < 24) (ima : 0 ≤ S 77 7 ∧ S 77 7 ≤ 24) (ims : zz_rr S 85 24 0 100) : CtR l yX4_isUnequal wsX4_isUnequal rm_X4_isUnequal 0 [.ref (a 77), zz_v x] N0 G Y a S (zz_mun (S 83) (S 82) (S 85) (S 77 7).toNat i) (S) (zz_mun (S 83) (S 82) (S 85) (S 77 7).toNat i = 0 ∨ zz_mun (S 83) (S 82) (S 85) (S 77 7).toNat i = 1) (False) (False) (False) := by
  refine Ct_.of (cc := cX4_isUnequal) (maxL := 5) (ret := (some .boolean)) (by decide) rfl (Nat.le_of_ble_eq_true rfl) ?_
  intro p e s m args below meth c hC hts hr hlk hex hF
  have hK := hF.2.1
  have w4 : ∀ w ∈ u_ws RX4 TX4 27, w.before args s = true := fun w h => hts w (List.mem_cons_of_mem _ (List.mem_append_right _ h))
  have f32 : (Cond.fieldLink RX4 32 "GrievancehallModel" "measure" "[I").before args s = true := hts _ (by decide +kernel)
  have f86 : (Cond.fieldLink RX4 86 "GrievancehallModel" "acts" "I").before args s = true := hts _ (by decide +kernel)
  refine gd_lveq (lv' := [(0, .ref (a 77)), (1, zz_v x)]) rfl ?_
  refine gd_aload_n hC dX4_isUnequal_0 rfl (j := 0) rfl ?_
  refine gd_iload_n hC dX4_isUnequal_1 rfl (j := 1) rfl ?_
  refine gd_callVR (As := [zz_v x]) (rest := []) hC hF (fun hR => c_X4_likesOf l hl9 N0 G Y a (S) x i hi (by omega) ima) (cwV 1 hts gX4_isUnequal_X4_likesOf rfl rfl rfl (by decide +kernel) ⟨by decide, by decide⟩) rfl (by decide) (ci := 4) rfl rfl rfl rfl (Nat.le_of_ble_eq_true rfl) dX4_isUnequal_2 ⟨by decide, by decide⟩ (fun E hx => zz_xn hx) (fun q1 q1r => ?_)
  obtain ⟨q1a, q1b⟩ := id q1r
  refine gd_istore_n hC dX4_isUnequal_5 rfl (by decide) (lv' := [(2, zz_v (zz_mln (S 83) (S 82) i (S 77 7).toNat)), (0, .ref (a 77)), (1, zz_v x)]) rfl ?_
  refine gd_iconst hC dX4_isUnequal_6 ?_
  refine gd_istore_n hC dX4_isUnequal_7 rfl (by decide) (lv' := [(3, zz_v 0), (2, zz_v (zz_mln (S 83) (S 82) i (S 77 7).toNat)), (0, .ref (a 77)), (1, zz_v x)]) rfl ?_
  refine gd_iconst hC dX4_isUnequal_8 ?_
  refine gd_istore hC dX4_isUnequal_9 (by decide) (lv' := [(4, zz_v 0), (3, zz_v 0), (2, zz_v (zz_mln (S 83) (S 82) i (S 77 7).toNat)), (0, .ref (a 77)), (1, zz_v x)]) rfl ?_
  refine gd_sub [3, 4, 2, 1, 0] (lv' := [(0, .ref (a 77)), (1, zz_v x), (2, zz_v (zz_mln (S 83) (S 82) i (S 77 7).toNat)), (3, zz_v 0), (4, zz_v 0)]) rfl ?_
  refine gd_loop (σ := Nat) (μ := fun vz => (S 77 7).toNat - vz) (I := fun vz => (vz ≤ (S 77 7).toNat)) (Sf := fun vz => S) (lf := fun vz => [(0, .ref (a 77)), (1, zz_v x), (2, zz_v (zz_mln (S 83) (S 82) i (S 77 7).toNat)), (3, zz_v (zz_mls (S 83) (S 82) (S 85) i vz)), (4, zz_v (vz : Int))]) 0 (by omega) rfl rfl (fun j hI ih11 => ?_)
  have hI0 : j ≤ (S 77 7).toNat := hI
  refine gd_lveq (lv' := [(0, .ref (a 77)), (1, zz_v x), (2, zz_v (zz_mln (S 83) (S 82) i (S 77 7).toNat)), (3, zz_v (zz_mls (S 83) (S 82) (S 85) i j)), (4, zz_v (j : Int))]) rfl ?_
  refine gd_eq (S' := S) rfl ?_
  have hrg := zz_mls_rng (S 83) (S 82) (S 85) i 24 ims j (by omega)
  refine gd_iload hC dX4_isUnequal_11 (j := 4) rfl ?_
  refine gd_aload_n hC dX4_isUnequal_13 rfl (j := 0) rfl ?_
  refine gd_getI hC w4 hK (ci := 4) rfl (by decide) rfl 7 (by decide) rfl f86 rfl dX4_isUnequal_14 (fun r2 => ?_)
  obtain ⟨r2a, r2b⟩ := id r2
  refine gd_icmp_ge hC dX4_isUnequal_17 (tgt := 50) (by decide) ⟨by omega, by omega⟩ ⟨by omega, by omega⟩ (fun c3 => ?_) (fun c3 => ?_)
  · skip
    have hls : zz_mls (S 83) (S 82) (S 85) i j = zz_mls (S 83) (S 82) (S 85) i (S 77 7).toNat := by rw [show (S 77 7).toNat = j by omega]
    refine gd_iload_n hC dX4_isUnequal_50 rfl (j := 2) rfl ?_
    refine gd_iconst hC dX4_isUnequal_51 ?_
    refine gd_icmp_lt hC dX4_isUnequal_52 (tgt := 73) (by decide) ⟨by omega, by omega⟩ ⟨by decide, by decide⟩ (fun c4 => ?_) (fun c4 => ?_)
    · skip
      refine gd_iconst hC dX4_isUnequal_73 ?_
      exact gd_ireturn hC hr (zz_nb (by omega)) hlk dX4_isUnequal_74 (by decide) ⟨_, ⟨by decide, by decide⟩, rfl, (by first | rfl | ((repeat' split) <;> first | rfl | omega)), (by unfold zz_mun; rw [← hls]; omega), (by unfold zz_mun; omega)⟩
    · skip
      refine gd_aload_n hC dX4_isUnequal_55 rfl (j := 0) rfl ?_
      refine gd_getR hC w4 hK (ci := 4) rfl (by decide) rfl 11 (by decide) (j := 85) rfl f32 rfl dX4_isUnequal_56 ?_
      refine gd_iload_n hC dX4_isUnequal_59 rfl (j := 1) rfl ?_
      refine gd_iald hC hK (j := i) rfl (by decide) hi (by omega) (by decide) dX4_isUnequal_60 (fun r5 => ?_)
      obtain ⟨r5a, r5b⟩ := id r5
      refine gd_iconst hC dX4_isUnequal_61 ?_
      refine gd_iload_n hC dX4_isUnequal_62 rfl (j := 3) rfl ?_
      refine gd_iload_n hC dX4_isUnequal_63 rfl (j := 2) rfl ?_
      refine gd_idiv hC dX4_isUnequal_64 ⟨by omega, by omega⟩ ⟨by omega, by omega⟩ ?_
      have hdv1 : 0 ≤ zz_mls (S 83) (S 82) (S 85) i j / zz_mln (S 83) (S 82) i (S 77 7).toNat := Int.ediv_nonneg (by omega) (by omega)
      have hdv2 : zz_mls (S 83) (S 82) (S 85) i j / zz_mln (S 83) (S 82) i (S 77 7).toNat ≤ zz_mls (S 83) (S 82) (S 85) i j := Int.ediv_le_self _ (by omega)
      refine gd_imul hC dX4_isUnequal_65 ?_
      refine gd_icmp_le hC dX4_isUnequal_66 (tgt := 73) (by decide) ⟨by omega, by omega⟩ ⟨by omega, by omega⟩ (fun c6 => ?_) (fun c6 => ?_)
      · skip
        refine gd_iconst hC dX4_isUnequal_73 ?_
        exact gd_ireturn hC hr (zz_nb (by omega)) hlk dX4_isUnequal_74 (by decide) ⟨_, ⟨by decide, by decide⟩, rfl, (by first | rfl | ((repeat' split) <;> first | rfl | omega)), (by unfold zz_mun; rw [← hls]; omega), (by unfold zz_mun; omega)⟩
      · skip
        refine gd_iconst hC dX4_isUnequal_69 ?_
        refine gd_goto hC dX4_isUnequal_70 (tgt := 74) (by decide) ?_
        exact gd_ireturn hC hr (zz_nb (by omega)) hlk dX4_isUnequal_74 (by decide) ⟨_, ⟨by decide, by decide⟩, rfl, (by first | rfl | ((repeat' split) <;> first | rfl | omega)), (by unfold zz_mun; rw [← hls]; omega), (by unfold zz_mun; omega)⟩
  · skip
    refine gd_iload_n hC dX4_isUnequal_20 rfl (j := 3) rfl ?_
    refine gd_aload_n hC dX4_isUnequal_21 rfl (j := 0) rfl ?_
    refine gd_iload_n hC dX4_isUnequal_22 rfl (j := 1) rfl ?_
    refine gd_iload hC dX4_isUnequal_23 (j := 4) rfl ?_
    refine gd_callVR (As := [zz_v x, zz_v (j : Int)]) (rest := [zz_v (zz_mls (S 83) (S 82) (S 85) i j)]) hC hF (fun hR => c_X4_areLike l hl9 N0 G Y a (S) x (j : Int) i j hi rfl (by omega) (by omega)) (cwV 2 hts gX4_isUnequal_X4_areLike rfl rfl rfl (by decide +kernel) ⟨by decide, by decide⟩) rfl (by decide) (ci := 4) rfl rfl rfl rfl (Nat.le_of_ble_eq_true rfl) dX4_isUnequal_25 ⟨by decide, by decide⟩ (fun E hx => zz_xn hx) (fun q7 q7r => ?_)
    obtain ⟨q7a, q7b⟩ := id q7r
    refine gd_if_eq hC dX4_isUnequal_28 (tgt := 41) (by decide) ⟨by omega, by omega⟩ (fun c8 => ?_) (fun c8 => ?_)
    · skip
      refine gd_iconst hC dX4_isUnequal_41 ?_
      refine gd_iadd hC dX4_isUnequal_42 ?_
      refine gd_istore_n hC dX4_isUnequal_43 rfl (by decide) (lv' := [(3, zz_v ((zz_mls (S 83) (S 82) (S 85) i j) + 0)), (0, .ref (a 77)), (1, zz_v x), (2, zz_v (zz_mln (S 83) (S 82) i (S 77 7).toNat)), (4, zz_v (j : Int))]) rfl ?_
      refine gd_iinc hC dX4_isUnequal_44 (j := 4) rfl (y := ((j + 1 : Nat) : Int)) (by omega) (by decide) (lv' := [(4, zz_v ((j + 1 : Nat) : Int)), (3, zz_v ((zz_mls (S 83) (S 82) (S 85) i j) + 0)), (0, .ref (a 77)), (1, zz_v x), (2, zz_v (zz_mln (S 83) (S 82) i (S 77 7).toNat))]) rfl ?_
      refine gd_goto hC dX4_isUnequal_47 (tgt := 11) (by decide) ?_
      refine gd_sub [2, 3, 4, 1, 0] (lv' := [(0, .ref (a 77)), (1, zz_v x), (2, zz_v (zz_mln (S 83) (S 82) i (S 77 7).toNat)), (3, zz_v ((zz_mls (S 83) (S 82) (S 85) i j) + 0)), (4, zz_v ((j + 1 : Nat) : Int))]) rfl ?_
      have hz : (zz_mls (S 83) (S 82) (S 85) i j) + 0 = zz_mls (S 83) (S 82) (S 85) i (j + 1) := by rw [zz_mls]; omega
      refine gd_lveq (lv' := [(0, .ref (a 77)), (1, zz_v x), (2, zz_v (zz_mln (S 83) (S 82) i (S 77 7).toNat)), (3, zz_v (zz_mls (S 83) (S 82) (S 85) i (j + 1))), (4, zz_v (((j + 1) : Nat) : Int))]) (by rw [hz]) ?_
      exact ih11 (j + 1) (by omega) (show (S 77 7).toNat - (j + 1) < (S 77 7).toNat - j by omega)
    · skip
      refine gd_aload_n hC dX4_isUnequal_31 rfl (j := 0) rfl ?_
      refine gd_getR hC w4 hK (ci := 4) rfl (by decide) rfl 11 (by decide) (j := 85) rfl f32 rfl dX4_isUnequal_32 ?_
      refine gd_iload hC dX4_isUnequal_35 (j := 4) rfl ?_
      refine gd_iald hC hK (j := j) rfl (by decide) rfl (by omega) (by decide) dX4_isUnequal_37 (fun r9 => ?_)
      obtain ⟨r9a, r9b⟩ := id r9
      refine gd_goto hC dX4_isUnequal_38 (tgt := 42) (by decide) ?_
      refine gd_iadd hC dX4_isUnequal_42 ?_
      refine gd_istore_n hC dX4_isUnequal_43 rfl (by decide) (lv' := [(3, zz_v ((zz_mls (S 83) (S 82) (S 85) i j) + (S 85 j))), (0, .ref (a 77)), (1, zz_v x), (2, zz_v (zz_mln (S 83) (S 82) i (S 77 7).toNat)), (4, zz_v (j : Int))]) rfl ?_
      refine gd_iinc hC dX4_isUnequal_44 (j := 4) rfl (y := ((j + 1 : Nat) : Int)) (by omega) (by decide) (lv' := [(4, zz_v ((j + 1 : Nat) : Int)), (3, zz_v ((zz_mls (S 83) (S 82) (S 85) i j) + (S 85 j))), (0, .ref (a 77)), (1, zz_v x), (2, zz_v (zz_mln (S 83) (S 82) i (S 77 7).toNat))]) rfl ?_
      refine gd_goto hC dX4_isUnequal_47 (tgt := 11) (by decide) ?_
      refine gd_sub [2, 3, 4, 1, 0] (lv' := [(0, .ref (a 77)), (1, zz_v x), (2, zz_v (zz_mln (S 83) (S 82) i (S 77 7).toNat)), (3, zz_v ((zz_mls (S 83) (S 82) (S 85) i j) + (S 85 j))), (4, zz_v ((j + 1 : Nat) : Int))]) rfl ?_
      have hz : (zz_mls (S 83) (S 82) (S 85) i j) + (S 85 j) = zz_mls (S 83) (S 82) (S 85) i (j + 1) := by rw [zz_mls]; omega
      refine gd_lveq (lv' := [(0, .ref (a 77)), (1, zz_v x), (2, zz_v (zz_mln (S 83) (S 82) i (S 77 7).toNat)), (3, zz_v (zz_mls (S 83) (S 82) (S 85) i (j + 1))), (4, zz_v (((j + 1) : Nat) : Int))]) (by rw [hz]) ?_
      exact ih11 (j + 1) (by omega) (show (S 77 7).toNat - (j + 1) < (S 77 7).toNat - j by omega)

abbrev rm_X4_faultOf : Room := { frames := 3, cells := 0, slots := 0, locals := 69 }
set_option maxHeartbeats 4000000 in
set_option maxRecDepth 100000 in
theorem c_X4_faultOf (l : Launch) (hl9 : l.stackTraces = false) (N0 : Nat) (G : zz_G) (Y : zz_Y) (a : Nat → Nat) (S : zz_S) (x : Int) (i : Nat) (hi : x = (i : Int)) (hi2 : i < 24) (ima : 0 ≤ S 77 7 ∧ S 77 7 ≤ 24) (ims : zz_rr S 85 24 0 100) (ikd : zz_rr S 83 24 0 3) (itd : zz_rr S 84 24 0 5000) : CtR l yX4_faultOf wsX4_faultOf rm_X4_faultOf 0 [.ref (a 77), zz_v x] N0 G Y a S (zz_mft (S 85) (S 81) (S 83) (S 84) (S 82) (S 77 7).toNat i) (S) (0 ≤ zz_mft (S 85) (S 81) (S 83) (S 84) (S 82) (S 77 7).toNat i ∧ zz_mft (S 85) (S 81) (S 83) (S 84) (S 82) (S 77 7).toNat i ≤ 3) (False) (False) (False) := by
  refine Ct_.of (cc := cX4_faultOf) (maxL := 2) (ret := (some .int)) (by decide) rfl (Nat.le_of_ble_eq_true rfl) ?_
  intro p e s m args below meth c hC hts hr hlk hex hF
  have hK := hF.2.1
  refine gd_lveq (lv' := [(0, .ref (a 77)), (1, zz_v x)]) rfl ?_
  refine gd_aload_n hC dX4_faultOf_0 rfl (j := 0) rfl ?_
  refine gd_iload_n hC dX4_faultOf_1 rfl (j := 1) rfl ?_
  refine gd_callVR (As := [zz_v x]) (rest := []) hC hF (fun hR => c_X4_doesFail l hl9 N0 G Y a (S) x i hi (by omega) ikd itd) (cwV 1 hts gX4_faultOf_X4_doesFail rfl rfl rfl (by decide +kernel) ⟨by decide, by decide⟩) rfl (by decide) (ci := 4) rfl rfl rfl rfl (Nat.le_of_ble_eq_true rfl) dX4_faultOf_2 ⟨by decide, by decide⟩ (fun E hx => zz_xn hx) (fun q1 q1r => ?_)
  obtain ⟨q1a, q1b⟩ := id q1r
  refine gd_if_eq hC dX4_faultOf_5 (tgt := 12) (by decide) ⟨by omega, by omega⟩ (fun c2 => ?_) (fun c2 => ?_)
  · skip
    refine gd_iconst hC dX4_faultOf_12 ?_
    refine gd_aload_n hC dX4_faultOf_13 rfl (j := 0) rfl ?_
    refine gd_iload_n hC dX4_faultOf_14 rfl (j := 1) rfl ?_
    refine gd_callVR (As := [zz_v x]) (rest := [zz_v 0]) hC hF (fun hR => c_X4_isUnequal l hl9 N0 G Y a (S) x i hi (by omega) ima ims) (cwV 1 hts gX4_faultOf_X4_isUnequal rfl rfl rfl (by decide +kernel) ⟨by decide, by decide⟩) rfl (by decide) (ci := 4) rfl rfl rfl rfl (Nat.le_of_ble_eq_true rfl) dX4_faultOf_15 ⟨by decide, by decide⟩ (fun E hx => zz_xn hx) (fun q3 q3r => ?_)
    obtain ⟨q3a, q3b⟩ := id q3r
    refine gd_if_eq hC dX4_faultOf_18 (tgt := 25) (by decide) ⟨by omega, by omega⟩ (fun c4 => ?_) (fun c4 => ?_)
    · skip
      refine gd_iconst hC dX4_faultOf_25 ?_
      refine gd_iadd hC dX4_faultOf_26 ?_
      refine gd_top (y := 0) rfl ?_
      exact gd_ireturn hC hr rfl hlk dX4_faultOf_27 (by decide) ⟨_, ⟨by decide, by decide⟩, rfl, (by first | rfl | ((repeat' split) <;> first | rfl | omega)), (by unfold zz_mft; omega), (zz_mft_rng _ _ _ _ _ _ _)⟩
    · skip
      refine gd_iconst hC dX4_faultOf_21 ?_
      refine gd_goto hC dX4_faultOf_22 (tgt := 26) (by decide) ?_
      refine gd_iadd hC dX4_faultOf_26 ?_
      refine gd_top (y := 2) rfl ?_
      exact gd_ireturn hC hr rfl hlk dX4_faultOf_27 (by decide) ⟨_, ⟨by decide, by decide⟩, rfl, (by first | rfl | ((repeat' split) <;> first | rfl | omega)), (by unfold zz_mft; omega), (zz_mft_rng _ _ _ _ _ _ _)⟩
  · skip
    refine gd_iconst hC dX4_faultOf_8 ?_
    refine gd_goto hC dX4_faultOf_9 (tgt := 13) (by decide) ?_
    refine gd_aload_n hC dX4_faultOf_13 rfl (j := 0) rfl ?_
    refine gd_iload_n hC dX4_faultOf_14 rfl (j := 1) rfl ?_
    refine gd_callVR (As := [zz_v x]) (rest := [zz_v 1]) hC hF (fun hR => c_X4_isUnequal l hl9 N0 G Y a (S) x i hi (by omega) ima ims) (cwV 1 hts gX4_faultOf_X4_isUnequal rfl rfl rfl (by decide +kernel) ⟨by decide, by decide⟩) rfl (by decide) (ci := 4) rfl rfl rfl rfl (Nat.le_of_ble_eq_true rfl) dX4_faultOf_15 ⟨by decide, by decide⟩ (fun E hx => zz_xn hx) (fun q5 q5r => ?_)
    obtain ⟨q5a, q5b⟩ := id q5r
    refine gd_if_eq hC dX4_faultOf_18 (tgt := 25) (by decide) ⟨by omega, by omega⟩ (fun c6 => ?_) (fun c6 => ?_)
    · skip
      refine gd_iconst hC dX4_faultOf_25 ?_
      refine gd_iadd hC dX4_faultOf_26 ?_
      refine gd_top (y := 1) rfl ?_
      exact gd_ireturn hC hr rfl hlk dX4_faultOf_27 (by decide) ⟨_, ⟨by decide, by decide⟩, rfl, (by first | rfl | ((repeat' split) <;> first | rfl | omega)), (by unfold zz_mft; omega), (zz_mft_rng _ _ _ _ _ _ _)⟩
    · skip
      refine gd_iconst hC dX4_faultOf_21 ?_
      refine gd_goto hC dX4_faultOf_22 (tgt := 26) (by decide) ?_
      refine gd_iadd hC dX4_faultOf_26 ?_
      refine gd_top (y := 3) rfl ?_
      exact gd_ireturn hC hr rfl hlk dX4_faultOf_27 (by decide) ⟨_, ⟨by decide, by decide⟩, rfl, (by first | rfl | ((repeat' split) <;> first | rfl | omega)), (by unfold zz_mft; omega), (zz_mft_rng _ _ _ _ _ _ _)⟩

abbrev rm_X4_barOf : Room := { frames := 0, cells := 0, slots := 0, locals := 0 }
set_option maxHeartbeats 4000000 in
set_option maxRecDepth 100000 in
theorem c_X4_barOf (l : Launch) (hl9 : l.stackTraces = false) (N0 : Nat) (G : zz_G) (Y : zz_Y) (a : Nat → Nat) (S : zz_S) (x y : Int) (pn i : Nat) (hx : x = (pn : Int)) (hy : y = (i : Int)) (hp2 : pn < 10) (hi2 : i < 24) (imd : 0 ≤ S 77 0 ∧ S 77 0 ≤ 5000) (ipl : zz_rr S 90 240 (-1) 5000) (itd : zz_rr S 84 24 0 5000) : CtR l yX4_barOf wsX4_barOf rm_X4_barOf 0 [.ref (a 77), zz_v x, zz_v y] N0 G Y a S (zz_mba (S 90) (S 87) (S 88) (S 84) (S 77 0) pn i) (S) (0 ≤ zz_mba (S 90) (S 87) (S 88) (S 84) (S 77 0) pn i ∧ zz_mba (S 90) (S 87) (S 88) (S 84) (S 77 0) pn i ≤ 3) (False) (False) (False) := by
  refine Ct_.of (cc := cX4_barOf) (maxL := 4) (ret := (some .int)) (by decide) rfl (Nat.le_of_ble_eq_true rfl) ?_
  intro p e s m args below meth c hC hts hr hlk hex hF
  have hK := hF.2.1
  have w4 : ∀ w ∈ u_ws RX4 TX4 27, w.before args s = true := fun w h => hts w (List.mem_cons_of_mem _ (List.mem_append_right _ h))
  have f29 : (Cond.fieldLink RX4 29 "GrievancehallModel" "told" "[I").before args s = true := hts _ (by decide +kernel)
  have f38 : (Cond.fieldLink RX4 38 "GrievancehallModel" "isInCourt" "[Z").before args s = true := hts _ (by decide +kernel)
  have f42 : (Cond.fieldLink RX4 42 "GrievancehallModel" "isWaived" "[Z").before args s = true := hts _ (by decide +kernel)
  have f48 : (Cond.fieldLink RX4 48 "GrievancehallModel" "pleaded" "[I").before args s = true := hts _ (by decide +kernel)
  have f107 : (Cond.fieldLink RX4 107 "GrievancehallModel" "day" "I").before args s = true := hts _ (by decide +kernel)
  refine gd_lveq (lv' := [(0, .ref (a 77)), (1, zz_v x), (2, zz_v y)]) rfl ?_
  have hpl := ipl (10 * i + pn) (by omega)
  have htd := itd i (by omega)
  refine gd_aload_n hC dX4_barOf_0 rfl (j := 0) rfl ?_
  refine gd_getR hC w4 hK (ci := 4) rfl (by decide) rfl 16 (by decide) (j := 90) rfl f48 rfl dX4_barOf_1 ?_
  refine gd_bipush hC dX4_barOf_4 rfl ?_
  refine gd_iload_n hC dX4_barOf_6 rfl (j := 2) rfl ?_
  refine gd_imul hC dX4_barOf_7 ?_
  refine gd_iload_n hC dX4_barOf_8 rfl (j := 1) rfl ?_
  refine gd_iadd hC dX4_barOf_9 ?_
  refine gd_iald hC hK (j := (10 * i + pn)) rfl (by decide) (by omega) (by omega) (by decide) dX4_barOf_10 (fun r1 => ?_)
  obtain ⟨r1a, r1b⟩ := id r1
  refine gd_istore_n hC dX4_barOf_11 rfl (by decide) (lv' := [(3, zz_v (S 90 (10 * i + pn))), (0, .ref (a 77)), (1, zz_v x), (2, zz_v y)]) rfl ?_
  refine gd_iload_n hC dX4_barOf_12 rfl (j := 0) rfl ?_
  refine gd_iconst hC dX4_barOf_13 ?_
  refine gd_icmp_eq hC dX4_barOf_14 (tgt := 28) (by decide) ⟨by omega, by omega⟩ ⟨by decide, by decide⟩ (fun c2 => ?_) (fun c2 => ?_)
  · skip
    refine gd_iconst hC dX4_barOf_28 ?_
    exact gd_ireturn hC hr rfl hlk dX4_barOf_29 (by decide) ⟨_, ⟨by decide, by decide⟩, rfl, (by first | rfl | ((repeat' split) <;> first | rfl | omega)), (by unfold zz_mba; omega), (by unfold zz_mba; omega)⟩
  · skip
    refine gd_aload_n hC dX4_barOf_17 rfl (j := 1) rfl ?_
    refine gd_getI hC w4 hK (ci := 4) rfl (by decide) rfl 0 (by decide) rfl f107 rfl dX4_barOf_18 (fun r3 => ?_)
    obtain ⟨r3a, r3b⟩ := id r3
    refine gd_iload_n hC dX4_barOf_21 rfl (j := 0) rfl ?_
    refine gd_isub hC dX4_barOf_22 ?_
    refine gd_bipush hC dX4_barOf_23 rfl ?_
    refine gd_icmp_ge hC dX4_barOf_25 (tgt := 30) (by decide) ⟨by omega, by omega⟩ ⟨by decide, by decide⟩ (fun c4 => ?_) (fun c4 => ?_)
    · skip
      refine gd_aload_n hC dX4_barOf_30 rfl (j := 1) rfl ?_
      refine gd_getR hC w4 hK (ci := 4) rfl (by decide) rfl 13 (by decide) (j := 87) rfl f38 rfl dX4_barOf_31 ?_
      refine gd_iload_n hC dX4_barOf_34 rfl (j := 3) rfl ?_
      refine gd_zald hC hK (j := i) rfl (by decide) hy (by omega) (by decide) dX4_barOf_35 (fun r5 => ?_)
      obtain ⟨r5a, r5b⟩ := id r5
      refine gd_if_eq hC dX4_barOf_36 (tgt := 43) (by decide) ⟨by omega, by omega⟩ (fun c6 => ?_) (fun c6 => ?_)
      · skip
        refine gd_aload_n hC dX4_barOf_43 rfl (j := 1) rfl ?_
        refine gd_getI hC w4 hK (ci := 4) rfl (by decide) rfl 0 (by decide) rfl f107 rfl dX4_barOf_44 (fun r7 => ?_)
        obtain ⟨r7a, r7b⟩ := id r7
        refine gd_aload_n hC dX4_barOf_47 rfl (j := 1) rfl ?_
        refine gd_getR hC w4 hK (ci := 4) rfl (by decide) rfl 10 (by decide) (j := 84) rfl f29 rfl dX4_barOf_48 ?_
        refine gd_iload_n hC dX4_barOf_51 rfl (j := 3) rfl ?_
        refine gd_iald hC hK (j := i) rfl (by decide) hy (by omega) (by decide) dX4_barOf_52 (fun r8 => ?_)
        obtain ⟨r8a, r8b⟩ := id r8
        refine gd_isub hC dX4_barOf_53 ?_
        refine gd_sipush hC dX4_barOf_54 rfl ?_
        refine gd_icmp_le hC dX4_barOf_57 (tgt := 73) (by decide) ⟨by omega, by omega⟩ ⟨by decide, by decide⟩ (fun c9 => ?_) (fun c9 => ?_)
        · skip
          refine gd_iconst hC dX4_barOf_73 ?_
          exact gd_ireturn hC hr rfl hlk dX4_barOf_74 (by decide) ⟨_, ⟨by decide, by decide⟩, rfl, (by first | rfl | ((repeat' split) <;> first | rfl | omega)), (by unfold zz_mba; omega), (by unfold zz_mba; omega)⟩
        · skip
          refine gd_aload_n hC dX4_barOf_60 rfl (j := 1) rfl ?_
          refine gd_getR hC w4 hK (ci := 4) rfl (by decide) rfl 14 (by decide) (j := 88) rfl f42 rfl dX4_barOf_61 ?_
          refine gd_iload_n hC dX4_barOf_64 rfl (j := 3) rfl ?_
          refine gd_zald hC hK (j := i) rfl (by decide) hy (by omega) (by decide) dX4_barOf_65 (fun r10 => ?_)
          obtain ⟨r10a, r10b⟩ := id r10
          refine gd_if_ne hC dX4_barOf_66 (tgt := 73) (by decide) ⟨by omega, by omega⟩ (fun c11 => ?_) (fun c11 => ?_)
          · skip
            refine gd_iconst hC dX4_barOf_73 ?_
            exact gd_ireturn hC hr rfl hlk dX4_barOf_74 (by decide) ⟨_, ⟨by decide, by decide⟩, rfl, (by first | rfl | ((repeat' split) <;> first | rfl | omega)), (by unfold zz_mba; omega), (by unfold zz_mba; omega)⟩
          · skip
            refine gd_iconst hC dX4_barOf_69 ?_
            refine gd_goto hC dX4_barOf_70 (tgt := 74) (by decide) ?_
            exact gd_ireturn hC hr rfl hlk dX4_barOf_74 (by decide) ⟨_, ⟨by decide, by decide⟩, rfl, (by first | rfl | ((repeat' split) <;> first | rfl | omega)), (by unfold zz_mba; omega), (by unfold zz_mba; omega)⟩
      · skip
        refine gd_iconst hC dX4_barOf_39 ?_
        refine gd_goto hC dX4_barOf_40 (tgt := 74) (by decide) ?_
        exact gd_ireturn hC hr rfl hlk dX4_barOf_74 (by decide) ⟨_, ⟨by decide, by decide⟩, rfl, (by first | rfl | ((repeat' split) <;> first | rfl | omega)), (by unfold zz_mba; omega), (by unfold zz_mba; omega)⟩
    · skip
      refine gd_iconst hC dX4_barOf_28 ?_
      exact gd_ireturn hC hr rfl hlk dX4_barOf_29 (by decide) ⟨_, ⟨by decide, by decide⟩, rfl, (by first | rfl | ((repeat' split) <;> first | rfl | omega)), (by unfold zz_mba; omega), (by unfold zz_mba; omega)⟩

abbrev rm_X4_complaintOf : Room := { frames := 0, cells := 0, slots := 0, locals := 0 }
set_option maxHeartbeats 4000000 in
set_option maxRecDepth 100000 in
theorem c_X4_complaintOf (l : Launch) (hl9 : l.stackTraces = false) (N0 : Nat) (G : zz_G) (Y : zz_Y) (a : Nat → Nat) (S : zz_S) (x : Int) (hx : zz_R x) (imc : 0 ≤ S 77 17 ∧ S 77 17 ≤ 16) : CtR l yX4_complaintOf wsX4_complaintOf rm_X4_complaintOf 0 [.ref (a 77), zz_v x] N0 G Y a S (zz_mcj (S 91) (S 92) x (S 77 17).toNat) (S) (-1 ≤ zz_mcj (S 91) (S 92) x (S 77 17).toNat ∧ zz_mcj (S 91) (S 92) x (S 77 17).toNat < S 77 17) (False) (False) (False) := by
  refine Ct_.of (cc := cX4_complaintOf) (maxL := 4) (ret := (some .int)) (by decide) rfl (Nat.le_of_ble_eq_true rfl) ?_
  intro p e s m args below meth c hC hts hr hlk hex hF
  have hK := hF.2.1
  have w4 : ∀ w ∈ u_ws RX4 TX4 27, w.before args s = true := fun w h => hts w (List.mem_cons_of_mem _ (List.mem_append_right _ h))
  have f51 : (Cond.fieldLink RX4 51 "GrievancehallModel" "about" "[I").before args s = true := hts _ (by decide +kernel)
  have f54 : (Cond.fieldLink RX4 54 "GrievancehallModel" "state" "[I").before args s = true := hts _ (by decide +kernel)
  have f89 : (Cond.fieldLink RX4 89 "GrievancehallModel" "complaints" "I").before args s = true := hts _ (by decide +kernel)
  refine gd_lveq (lv' := [(0, .ref (a 77)), (1, zz_v x)]) rfl ?_
  obtain ⟨hx1, hx2⟩ := id hx
  refine gd_iconst hC dX4_complaintOf_0 ?_
  refine gd_istore_n hC dX4_complaintOf_1 rfl (by decide) (lv' := [(2, zz_v (-1)), (0, .ref (a 77)), (1, zz_v x)]) rfl ?_
  refine gd_iconst hC dX4_complaintOf_2 ?_
  refine gd_istore_n hC dX4_complaintOf_3 rfl (by decide) (lv' := [(3, zz_v 0), (2, zz_v (-1)), (0, .ref (a 77)), (1, zz_v x)]) rfl ?_
  refine gd_sub [2, 3, 1, 0] (lv' := [(0, .ref (a 77)), (1, zz_v x), (2, zz_v (-1)), (3, zz_v 0)]) rfl ?_
  refine gd_loop (σ := Nat) (μ := fun vz => (S 77 17).toNat - vz) (I := fun vz => (vz ≤ (S 77 17).toNat)) (Sf := fun vz => S) (lf := fun vz => [(0, .ref (a 77)), (1, zz_v x), (2, zz_v (zz_mcj (S 91) (S 92) x vz)), (3, zz_v (vz : Int))]) 0 (by omega) rfl rfl (fun j hI ih4 => ?_)
  have hI0 : j ≤ (S 77 17).toNat := hI
  refine gd_lveq (lv' := [(0, .ref (a 77)), (1, zz_v x), (2, zz_v (zz_mcj (S 91) (S 92) x j)), (3, zz_v (j : Int))]) rfl ?_
  refine gd_eq (S' := S) rfl ?_
  have hrg := zz_mcj_rng (S 91) (S 92) x j
  refine gd_iload_n hC dX4_complaintOf_4 rfl (j := 3) rfl ?_
  refine gd_aload_n hC dX4_complaintOf_5 rfl (j := 0) rfl ?_
  refine gd_getI hC w4 hK (ci := 4) rfl (by decide) rfl 17 (by decide) rfl f89 rfl dX4_complaintOf_6 (fun r1 => ?_)
  obtain ⟨r1a, r1b⟩ := id r1
  refine gd_icmp_ge hC dX4_complaintOf_9 (tgt := 44) (by decide) ⟨by omega, by omega⟩ ⟨by omega, by omega⟩ (fun c2 => ?_) (fun c2 => ?_)
  · skip
    refine gd_iload_n hC dX4_complaintOf_44 rfl (j := 2) rfl ?_
    exact gd_ireturn hC hr rfl hlk dX4_complaintOf_45 (by decide) ⟨_, ⟨by omega, by omega⟩, rfl, (by first | rfl | ((repeat' split) <;> first | rfl | omega)), (by rw [show (S 77 17).toNat = j by omega]), (by rw [show (S 77 17).toNat = j by omega]; omega)⟩
  · skip
    refine gd_aload_n hC dX4_complaintOf_12 rfl (j := 0) rfl ?_
    refine gd_getR hC w4 hK (ci := 4) rfl (by decide) rfl 18 (by decide) (j := 91) rfl f51 rfl dX4_complaintOf_13 ?_
    refine gd_iload_n hC dX4_complaintOf_16 rfl (j := 3) rfl ?_
    refine gd_iald hC hK (j := j) rfl (by decide) rfl (by omega) (by decide) dX4_complaintOf_17 (fun r3 => ?_)
    obtain ⟨r3a, r3b⟩ := id r3
    refine gd_iload_n hC dX4_complaintOf_18 rfl (j := 1) rfl ?_
    refine gd_icmp_ne hC dX4_complaintOf_19 (tgt := 36) (by decide) ⟨by omega, by omega⟩ ⟨by omega, by omega⟩ (fun c4 => ?_) (fun c4 => ?_)
    · skip
      refine gd_iload_n hC dX4_complaintOf_36 rfl (j := 2) rfl ?_
      refine gd_istore_n hC dX4_complaintOf_37 rfl (by decide) (lv' := [(2, zz_v (zz_mcj (S 91) (S 92) x j)), (0, .ref (a 77)), (1, zz_v x), (3, zz_v (j : Int))]) rfl ?_
      refine gd_iinc hC dX4_complaintOf_38 (j := 3) rfl (y := ((j + 1 : Nat) : Int)) (by omega) (by decide) (lv' := [(3, zz_v ((j + 1 : Nat) : Int)), (2, zz_v (zz_mcj (S 91) (S 92) x j)), (0, .ref (a 77)), (1, zz_v x)]) rfl ?_
      refine gd_goto hC dX4_complaintOf_41 (tgt := 4) (by decide) ?_
      refine gd_sub [2, 3, 1, 0] (lv' := [(0, .ref (a 77)), (1, zz_v x), (2, zz_v (zz_mcj (S 91) (S 92) x j)), (3, zz_v ((j + 1 : Nat) : Int))]) rfl ?_
      have hz : zz_mcj (S 91) (S 92) x j = zz_mcj (S 91) (S 92) x (j + 1) := by rw [zz_mcj]; omega
      refine gd_lveq (lv' := [(0, .ref (a 77)), (1, zz_v x), (2, zz_v (zz_mcj (S 91) (S 92) x (j + 1))), (3, zz_v (((j + 1) : Nat) : Int))]) (by rw [hz]) ?_
      exact ih4 (j + 1) (by omega) (show (S 77 17).toNat - (j + 1) < (S 77 17).toNat - j by omega)
    · skip
      refine gd_aload_n hC dX4_complaintOf_22 rfl (j := 0) rfl ?_
      refine gd_getR hC w4 hK (ci := 4) rfl (by decide) rfl 19 (by decide) (j := 92) rfl f54 rfl dX4_complaintOf_23 ?_
      refine gd_iload_n hC dX4_complaintOf_26 rfl (j := 3) rfl ?_
      refine gd_iald hC hK (j := j) rfl (by decide) rfl (by omega) (by decide) dX4_complaintOf_27 (fun r5 => ?_)
      obtain ⟨r5a, r5b⟩ := id r5
      refine gd_iconst hC dX4_complaintOf_28 ?_
      refine gd_icmp_eq hC dX4_complaintOf_29 (tgt := 36) (by decide) ⟨by omega, by omega⟩ ⟨by decide, by decide⟩ (fun c6 => ?_) (fun c6 => ?_)
      · skip
        refine gd_iload_n hC dX4_complaintOf_36 rfl (j := 2) rfl ?_
        refine gd_istore_n hC dX4_complaintOf_37 rfl (by decide) (lv' := [(2, zz_v (zz_mcj (S 91) (S 92) x j)), (0, .ref (a 77)), (1, zz_v x), (3, zz_v (j : Int))]) rfl ?_
        refine gd_iinc hC dX4_complaintOf_38 (j := 3) rfl (y := ((j + 1 : Nat) : Int)) (by omega) (by decide) (lv' := [(3, zz_v ((j + 1 : Nat) : Int)), (2, zz_v (zz_mcj (S 91) (S 92) x j)), (0, .ref (a 77)), (1, zz_v x)]) rfl ?_
        refine gd_goto hC dX4_complaintOf_41 (tgt := 4) (by decide) ?_
        refine gd_sub [2, 3, 1, 0] (lv' := [(0, .ref (a 77)), (1, zz_v x), (2, zz_v (zz_mcj (S 91) (S 92) x j)), (3, zz_v ((j + 1 : Nat) : Int))]) rfl ?_
        have hz : zz_mcj (S 91) (S 92) x j = zz_mcj (S 91) (S 92) x (j + 1) := by rw [zz_mcj]; omega
        refine gd_lveq (lv' := [(0, .ref (a 77)), (1, zz_v x), (2, zz_v (zz_mcj (S 91) (S 92) x (j + 1))), (3, zz_v (((j + 1) : Nat) : Int))]) (by rw [hz]) ?_
        exact ih4 (j + 1) (by omega) (show (S 77 17).toNat - (j + 1) < (S 77 17).toNat - j by omega)
      · skip
        refine gd_iload_n hC dX4_complaintOf_32 rfl (j := 3) rfl ?_
        refine gd_goto hC dX4_complaintOf_33 (tgt := 37) (by decide) ?_
        refine gd_istore_n hC dX4_complaintOf_37 rfl (by decide) (lv' := [(2, zz_v (j : Int)), (0, .ref (a 77)), (1, zz_v x), (3, zz_v (j : Int))]) rfl ?_
        refine gd_iinc hC dX4_complaintOf_38 (j := 3) rfl (y := ((j + 1 : Nat) : Int)) (by omega) (by decide) (lv' := [(3, zz_v ((j + 1 : Nat) : Int)), (2, zz_v (j : Int)), (0, .ref (a 77)), (1, zz_v x)]) rfl ?_
        refine gd_goto hC dX4_complaintOf_41 (tgt := 4) (by decide) ?_
        refine gd_sub [2, 3, 1, 0] (lv' := [(0, .ref (a 77)), (1, zz_v x), (2, zz_v (j : Int)), (3, zz_v ((j + 1 : Nat) : Int))]) rfl ?_
        have hz : (j : Int) = zz_mcj (S 91) (S 92) x (j + 1) := by rw [zz_mcj]; omega
        refine gd_lveq (lv' := [(0, .ref (a 77)), (1, zz_v x), (2, zz_v (zz_mcj (S 91) (S 92) x (j + 1))), (3, zz_v (((j + 1) : Nat) : Int))]) (by rw [hz]) ?_
        exact ih4 (j + 1) (by omega) (show (S 77 17).toNat - (j + 1) < (S 77 17).toNat - j by omega)

abbrev rm_X4_isOwed : Room := { frames := 0, cells := 0, slots := 0, locals := 0 }
set_option maxHeartbeats 4000000 in
set_option maxRecDepth 100000 in
theorem c_X4_isOwed (l : Launch) (hl9 : l.stackTraces = false) (N0 : Nat) (G : zz_G) (Y : zz_Y) (a : Nat → Nat) (S : zz_S) (x : Int) (j : Nat) (hj : x = (j : Int)) (hj2 : j < 16) : CtR l yX4_isOwed wsX4_isOwed rm_X4_isOwed 0 [.ref (a 77), zz_v x] N0 G Y a S (zz_mow (S 95) (S 96) j) (S) (zz_mow (S 95) (S 96) j = 0 ∨ zz_mow (S 95) (S 96) j = 1) (False) (False) (False) := by
  refine Ct_.of (cc := cX4_isOwed) (maxL := 2) (ret := (some .boolean)) (by decide) rfl (Nat.le_of_ble_eq_true rfl) ?_
  intro p e s m args below meth c hC hts hr hlk hex hF
  have hK := hF.2.1
  have w4 : ∀ w ∈ u_ws RX4 TX4 27, w.before args s = true := fun w h => hts w (List.mem_cons_of_mem _ (List.mem_append_right _ h))
  have f63 : (Cond.fieldLink RX4 63 "GrievancehallModel" "asked" "[I").before args s = true := hts _ (by decide +kernel)
  have f66 : (Cond.fieldLink RX4 66 "GrievancehallModel" "isAnswered" "[Z").before args s = true := hts _ (by decide +kernel)
  refine gd_lveq (lv' := [(0, .ref (a 77)), (1, zz_v x)]) rfl ?_
  refine gd_aload_n hC dX4_isOwed_0 rfl (j := 0) rfl ?_
  refine gd_getR hC w4 hK (ci := 4) rfl (by decide) rfl 22 (by decide) (j := 95) rfl f63 rfl dX4_isOwed_1 ?_
  refine gd_iload_n hC dX4_isOwed_4 rfl (j := 1) rfl ?_
  refine gd_iald hC hK (j := j) rfl (by decide) hj (by omega) (by decide) dX4_isOwed_5 (fun r1 => ?_)
  obtain ⟨r1a, r1b⟩ := id r1
  refine gd_iconst hC dX4_isOwed_6 ?_
  refine gd_icmp_eq hC dX4_isOwed_7 (tgt := 23) (by decide) ⟨by omega, by omega⟩ ⟨by decide, by decide⟩ (fun c2 => ?_) (fun c2 => ?_)
  · skip
    refine gd_iconst hC dX4_isOwed_23 ?_
    exact gd_ireturn hC hr (zz_nb (by omega)) hlk dX4_isOwed_24 (by decide) ⟨_, ⟨by decide, by decide⟩, rfl, (by first | rfl | ((repeat' split) <;> first | rfl | omega)), (by unfold zz_mow; omega), (by unfold zz_mow; omega)⟩
  · skip
    refine gd_aload_n hC dX4_isOwed_10 rfl (j := 0) rfl ?_
    refine gd_getR hC w4 hK (ci := 4) rfl (by decide) rfl 23 (by decide) (j := 96) rfl f66 rfl dX4_isOwed_11 ?_
    refine gd_iload_n hC dX4_isOwed_14 rfl (j := 1) rfl ?_
    refine gd_zald hC hK (j := j) rfl (by decide) hj (by omega) (by decide) dX4_isOwed_15 (fun r3 => ?_)
    obtain ⟨r3a, r3b⟩ := id r3
    refine gd_if_ne hC dX4_isOwed_16 (tgt := 23) (by decide) ⟨by omega, by omega⟩ (fun c4 => ?_) (fun c4 => ?_)
    · skip
      refine gd_iconst hC dX4_isOwed_23 ?_
      exact gd_ireturn hC hr (zz_nb (by omega)) hlk dX4_isOwed_24 (by decide) ⟨_, ⟨by decide, by decide⟩, rfl, (by first | rfl | ((repeat' split) <;> first | rfl | omega)), (by unfold zz_mow; omega), (by unfold zz_mow; omega)⟩
    · skip
      refine gd_iconst hC dX4_isOwed_19 ?_
      refine gd_goto hC dX4_isOwed_20 (tgt := 24) (by decide) ?_
      exact gd_ireturn hC hr (zz_nb (by omega)) hlk dX4_isOwed_24 (by decide) ⟨_, ⟨by decide, by decide⟩, rfl, (by first | rfl | ((repeat' split) <;> first | rfl | omega)), (by unfold zz_mow; omega), (by unfold zz_mow; omega)⟩

abbrev rm_X4_ones : Room := { frames := 0, cells := 0, slots := 0, locals := 0 }
set_option maxHeartbeats 4000000 in
set_option maxRecDepth 100000 in
theorem c_X4_ones (l : Launch) (hl9 : l.stackTraces = false) (N0 : Nat) (G : zz_G) (Y : zz_Y) (a : Nat → Nat) (S : zz_S) (x : Int) (hx : 0 ≤ x ∧ x < 2147483648) : CtR l yX4_ones wsX4_ones rm_X4_ones 0 [zz_v x] N0 G Y a S (((zz_on x.toNat 10 : Nat) : Int)) (S) (zz_on x.toNat 10 ≤ 10) (False) (False) (False) := by
  refine Ct_.of (cc := cX4_ones) (maxL := 3) (ret := (some .int)) (by decide) rfl (Nat.le_of_ble_eq_true rfl) ?_
  intro p e s m args below meth c hC hts hr hlk hex hF
  have hK := hF.2.1
  refine gd_lveq (lv' := [(0, zz_v x)]) rfl ?_
  refine gd_iconst hC dX4_ones_0 ?_
  refine gd_istore_n hC dX4_ones_1 rfl (by decide) (lv' := [(1, zz_v 0), (0, zz_v x)]) rfl ?_
  refine gd_iconst hC dX4_ones_2 ?_
  refine gd_istore_n hC dX4_ones_3 rfl (by decide) (lv' := [(2, zz_v 0), (1, zz_v 0), (0, zz_v x)]) rfl ?_
  refine gd_sub [2, 1, 0] (lv' := [(0, zz_v x), (1, zz_v 0), (2, zz_v 0)]) rfl ?_
  refine gd_loop (σ := Nat) (μ := fun vz => 10 - vz) (I := fun vz => (vz ≤ 10)) (Sf := fun vz => S) (lf := fun vz => [(0, zz_v x), (1, zz_v ((zz_on x.toNat vz : Nat) : Int)), (2, zz_v (vz : Int))]) 0 (by omega) rfl rfl (fun k hI ih4 => ?_)
  have hI0 : k ≤ 10 := hI
  refine gd_lveq (lv' := [(0, zz_v x), (1, zz_v ((zz_on x.toNat k : Nat) : Int)), (2, zz_v (k : Int))]) rfl ?_
  refine gd_eq (S' := S) rfl ?_
  have hrg := zz_on_rng x.toNat k
  refine gd_iload_n hC dX4_ones_4 rfl (j := 2) rfl ?_
  refine gd_bipush hC dX4_ones_5 rfl ?_
  refine gd_icmp_ge hC dX4_ones_7 (tgt := 24) (by decide) ⟨by omega, by omega⟩ ⟨by decide, by decide⟩ (fun c1 => ?_) (fun c1 => ?_)
  · skip
    refine gd_iload_n hC dX4_ones_24 rfl (j := 1) rfl ?_
    exact gd_ireturn hC hr rfl hlk dX4_ones_25 (by decide) ⟨_, ⟨by omega, by omega⟩, rfl, (by first | rfl | ((repeat' split) <;> first | rfl | omega)), (by rw [show 10 = k by omega]), (zz_on_rng _ _)⟩
  · skip
    refine gd_iload_n hC dX4_ones_10 rfl (j := 1) rfl ?_
    refine gd_iload_n hC dX4_ones_11 rfl (j := 0) rfl ?_
    refine gd_iload_n hC dX4_ones_12 rfl (j := 2) rfl ?_
    refine gd_ishr hC ⟨by omega, by omega⟩ ⟨by omega, by omega⟩ dX4_ones_13 ?_
    refine gd_top (y := ((x.toNat / 2 ^ k : Nat) : Int)) (by first | rfl | simp) ?_
    refine gd_iconst hC dX4_ones_14 ?_
    refine gd_iand1 hC dX4_ones_15 ?_
    refine gd_iadd hC dX4_ones_16 ?_
    refine gd_istore_n hC dX4_ones_17 rfl (by decide) (lv' := [(1, zz_v (((zz_on x.toNat k : Nat) : Int) + (((x.toNat / 2 ^ k) % 2 : Nat) : Int))), (0, zz_v x), (2, zz_v (k : Int))]) rfl ?_
    refine gd_iinc hC dX4_ones_18 (j := 2) rfl (y := ((k + 1 : Nat) : Int)) (by omega) (by decide) (lv' := [(2, zz_v ((k + 1 : Nat) : Int)), (1, zz_v (((zz_on x.toNat k : Nat) : Int) + (((x.toNat / 2 ^ k) % 2 : Nat) : Int))), (0, zz_v x)]) rfl ?_
    refine gd_goto hC dX4_ones_21 (tgt := 4) (by decide) ?_
    refine gd_sub [2, 1, 0] (lv' := [(0, zz_v x), (1, zz_v (((zz_on x.toNat k : Nat) : Int) + (((x.toNat / 2 ^ k) % 2 : Nat) : Int))), (2, zz_v ((k + 1 : Nat) : Int))]) rfl ?_
    have hz : ((zz_on x.toNat k : Nat) : Int) + (((x.toNat / 2 ^ k) % 2 : Nat) : Int) = ((zz_on x.toNat (k + 1) : Nat) : Int) := by rw [zz_on, Int.natCast_add]
    refine gd_lveq (lv' := [(0, zz_v x), (1, zz_v ((zz_on x.toNat (k + 1) : Nat) : Int)), (2, zz_v (((k + 1) : Nat) : Int))]) (by rw [hz]) ?_
    exact ih4 (k + 1) (by omega) (show 10 - (k + 1) < 10 - k by omega)
