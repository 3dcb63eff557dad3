abbrev rm_X3_ownerOn : Room := { frames := 1, cells := 0, slots := 0, locals := 24 }
set_option maxHeartbeats 4000000 in
set_option maxRecDepth 100000 in
theorem c_X3_ownerOn (l : Launch) (hl9 : l.stackTraces = false) (N0 : Nat) (G : zz_G) (Y : zz_Y) (a : Nat → Nat) (S : zz_S) (x d : Int) (hx : zz_R x) (hd : zz_R d) (hc : 0 ≤ S 3 3 ∧ S 3 3 ≤ 512) : CtR l yX3_ownerOn wsX3_ownerOn rm_X3_ownerOn 0 [.ref (a 0), zz_v x, zz_v d] N0 G Y a S (zz_oo (S 4) (S 5) (S 6) (S 3 3).toNat d 10 x) (S) (True) (False) (False) (False) := by
  refine Ct_.of (cc := cX3_ownerOn) (maxL := 6) (ret := (some .int)) (by decide) rfl (Nat.le_of_ble_eq_true rfl) ?_
  intro p e s m args below meth c hC hts hr hlk hex hF
  have hK := hF.2.1
  have w3 : ∀ w ∈ u_ws RX3 TX3 11, w.before args s = true := fun w h => hts w (List.mem_cons_of_mem _ (List.mem_append_left _ (List.mem_append_right _ h)))
  have f20 : (Cond.fieldLink RX3 20 "Grievancehall" "delegations" "LGrievancehall$Changes;").before args s = true := hts _ (by decide +kernel)
  refine gd_lveq (lv' := [(0, .ref (a 0)), (1, zz_v x), (2, zz_v d)]) rfl ?_
  obtain ⟨hx1, hx2⟩ := id hx
  obtain ⟨hn1, hn2⟩ := id hd
  refine gd_iload_n hC dX3_ownerOn_0 rfl (j := 1) rfl ?_
  refine gd_istore_n hC dX3_ownerOn_1 rfl (by decide) (lv' := [(3, zz_v x), (0, .ref (a 0)), (1, zz_v x), (2, zz_v d)]) rfl ?_
  refine gd_iconst hC dX3_ownerOn_2 ?_
  refine gd_istore hC dX3_ownerOn_3 (by decide) (lv' := [(4, zz_v 0), (3, zz_v x), (0, .ref (a 0)), (1, zz_v x), (2, zz_v d)]) rfl ?_
  refine gd_sub [2, 4, 1, 0] (lv' := [(0, .ref (a 0)), (2, zz_v d), (3, zz_v x), (4, zz_v 0)]) rfl ?_
  refine gd_loop (σ := Nat × Int) (μ := fun vz => vz.1) (I := fun vz => (vz.1 ≤ 10) ∧ (zz_R vz.2) ∧ (zz_oo (S 4) (S 5) (S 6) (S 3 3).toNat d 10 x = zz_oo (S 4) (S 5) (S 6) (S 3 3).toNat d vz.1 vz.2)) (Sf := fun vz => S) (lf := fun vz => [(0, .ref (a 0)), (2, zz_v d), (3, zz_v vz.2), (4, zz_v (10 - (vz.1 : Int)))]) (10, x) (⟨by omega, hx, rfl⟩) rfl rfl (fun ⟨m, o⟩ hI ih5 => ?_)
  obtain ⟨hI0, hI1, hI2⟩ : (m ≤ 10) ∧ (zz_R o) ∧ (zz_oo (S 4) (S 5) (S 6) (S 3 3).toNat d 10 x = zz_oo (S 4) (S 5) (S 6) (S 3 3).toNat d m o) := hI
  refine gd_lveq (lv' := [(0, .ref (a 0)), (2, zz_v d), (3, zz_v o), (4, zz_v (10 - (m : Int)))]) rfl ?_
  refine gd_eq (S' := S) rfl ?_
  obtain ⟨ho1, ho2⟩ := id hI1
  refine gd_iload hC dX3_ownerOn_5 (j := 3) rfl ?_
  refine gd_bipush hC dX3_ownerOn_7 rfl ?_
  refine gd_icmp_ge hC dX3_ownerOn_9 (tgt := 41) (by decide) ⟨by omega, by omega⟩ ⟨by decide, by decide⟩ (fun c1 => ?_) (fun c1 => ?_)
  · skip
    refine gd_iload_n hC dX3_ownerOn_41 rfl (j := 2) rfl ?_
    exact gd_ireturn hC hr rfl hlk dX3_ownerOn_42 (by decide) ⟨_, ⟨by omega, by omega⟩, rfl, (by first | rfl | ((repeat' split) <;> first | rfl | omega)), (by rw [hI2, show m = 0 by omega]; rfl), trivial⟩
  · skip
    refine gd_aload_n hC dX3_ownerOn_12 rfl (j := 0) rfl ?_
    refine gd_getR hC w3 hK (ci := 3) rfl (by decide) rfl 4 (by decide) (j := 3) rfl f20 rfl dX3_ownerOn_13 ?_
    refine gd_iload_n hC dX3_ownerOn_16 rfl (j := 2) rfl ?_
    refine gd_iload_n hC dX3_ownerOn_17 rfl (j := 1) rfl ?_
    refine gd_iconst hC dX3_ownerOn_18 ?_
    refine gd_callVR (As := [zz_v o, zz_v d, zz_v (-1)]) (rest := []) hC hF (fun hR => c_X1_valueOn_3 l hl9 N0 G Y a (S) o d (-1) ⟨by omega, by omega⟩ ⟨by omega, by omega⟩ ⟨by decide, by decide⟩ (by omega)) (cwV 3 hts gX3_ownerOn_X1_valueOn rfl rfl rfl (by decide +kernel) ⟨by decide, by decide⟩) rfl (by decide) (ci := 1) rfl rfl rfl rfl (Nat.le_of_ble_eq_true rfl) dX3_ownerOn_19 ⟨by decide, by decide⟩ (fun E hx => zz_xn hx) (fun q2 q2r => ?_)
    obtain ⟨q2a, q2b⟩ := id q2r
    refine gd_istore hC dX3_ownerOn_22 (by decide) (lv' := [(5, zz_v (zz_vo (S 4) (S 5) (S 6) o d (-1) (S 3 3).toNat)), (0, .ref (a 0)), (2, zz_v d), (3, zz_v o), (4, zz_v (10 - (m : Int)))]) rfl ?_
    refine gd_iload hC dX3_ownerOn_24 (j := 0) rfl ?_
    refine gd_iconst hC dX3_ownerOn_26 ?_
    refine gd_icmp_ne hC dX3_ownerOn_27 (tgt := 32) (by decide) ⟨by omega, by omega⟩ ⟨by decide, by decide⟩ (fun c3 => ?_) (fun c3 => ?_)
    · skip
      refine gd_iload hC dX3_ownerOn_32 (j := 0) rfl ?_
      refine gd_istore_n hC dX3_ownerOn_34 rfl (by decide) (lv' := [(3, zz_v (zz_vo (S 4) (S 5) (S 6) o d (-1) (S 3 3).toNat)), (5, zz_v (zz_vo (S 4) (S 5) (S 6) o d (-1) (S 3 3).toNat)), (0, .ref (a 0)), (2, zz_v d), (4, zz_v (10 - (m : Int)))]) rfl ?_
      refine gd_iinc hC dX3_ownerOn_35 (j := 4) rfl (y := 10 - (m : Int) + 1) (by omega) (by decide) (lv' := [(4, zz_v (10 - (m : Int) + 1)), (3, zz_v (zz_vo (S 4) (S 5) (S 6) o d (-1) (S 3 3).toNat)), (5, zz_v (zz_vo (S 4) (S 5) (S 6) o d (-1) (S 3 3).toNat)), (0, .ref (a 0)), (2, zz_v d)]) rfl ?_
      refine gd_goto hC dX3_ownerOn_38 (tgt := 5) (by decide) ?_
      refine gd_sub [3, 4, 1, 0] (lv' := [(0, .ref (a 0)), (2, zz_v d), (3, zz_v (zz_vo (S 4) (S 5) (S 6) o d (-1) (S 3 3).toNat)), (4, zz_v (10 - (m : Int) + 1))]) rfl ?_
      refine gd_lveq (lv' := [(0, .ref (a 0)), (2, zz_v d), (3, zz_v (zz_vo (S 4) (S 5) (S 6) o d (-1) (S 3 3).toNat)), (4, zz_v (10 - (((m - 1) : Nat) : Int)))]) (by rw [show 10 - (m : Int) + 1 = 10 - ((m - 1 : Nat) : Int) by omega]) ?_
      exact ih5 ((m - 1), (zz_vo (S 4) (S 5) (S 6) o d (-1) (S 3 3).toNat)) ⟨by omega, ⟨by omega, by omega⟩, by rw [hI2]; obtain ⟨n, rfl⟩ : ∃ n, m = n + 1 := ⟨m - 1, by omega⟩; rw [zz_oo, if_neg (by omega)]; rfl⟩ (show (m - 1) < m by omega)
    · skip
      refine gd_iload_n hC dX3_ownerOn_30 rfl (j := 3) rfl ?_
      exact gd_ireturn hC hr rfl hlk dX3_ownerOn_31 (by decide) ⟨_, ⟨by omega, by omega⟩, rfl, (by first | rfl | ((repeat' split) <;> first | rfl | omega)), (by rw [hI2]; obtain ⟨n, rfl⟩ : ∃ n, m = n + 1 := ⟨m - 1, by omega⟩; rw [zz_oo, if_pos (by omega)]), trivial⟩

abbrev rm_X3_climbFrom : Room := { frames := 0, cells := 0, slots := 0, locals := 0 }
set_option maxHeartbeats 4000000 in
set_option maxRecDepth 100000 in
theorem c_X3_climbFrom (l : Launch) (hl9 : l.stackTraces = false) (N0 : Nat) (G : zz_G) (Y : zz_Y) (a : Nat → Nat) (S : zz_S) (x n : Int) (hx : 0 ≤ x ∧ x ≤ 9) (hn : 0 ≤ n ∧ n < 2147483648) (hab : zz_rr S 2 10 (-1) 9) : CtR l yX3_climbFrom wsX3_climbFrom rm_X3_climbFrom 0 [.ref (a 0), zz_v x, zz_v n] N0 G Y a S (zz_cb S n.toNat x) (S) (True) (False) (False) (False) := by
  refine Ct_.of (cc := cX3_climbFrom) (maxL := 5) (ret := (some .int)) (by decide) rfl (Nat.le_of_ble_eq_true rfl) ?_
  intro p e s m args below meth c hC hts hr hlk hex hF
  have hK := hF.2.1
  have w3 : ∀ w ∈ u_ws RX3 TX3 11, w.before args s = true := fun w h => hts w (List.mem_cons_of_mem _ (List.mem_append_right _ h))
  have f13 : (Cond.fieldLink RX3 13 "Grievancehall" "aboveOffice" "[I").before args s = true := hts _ (by decide +kernel)
  refine gd_lveq (lv' := [(0, .ref (a 0)), (1, zz_v x), (2, zz_v n)]) rfl ?_
  refine gd_iload_n hC dX3_climbFrom_0 rfl (j := 1) rfl ?_
  refine gd_istore_n hC dX3_climbFrom_1 rfl (by decide) (lv' := [(3, zz_v x), (0, .ref (a 0)), (1, zz_v x), (2, zz_v n)]) rfl ?_
  refine gd_iconst hC dX3_climbFrom_2 ?_
  refine gd_istore hC dX3_climbFrom_3 (by decide) (lv' := [(4, zz_v 0), (3, zz_v x), (0, .ref (a 0)), (1, zz_v x), (2, zz_v n)]) rfl ?_
  refine gd_sub [2, 4, 1, 0] (lv' := [(0, .ref (a 0)), (2, zz_v n), (3, zz_v x), (4, zz_v 0)]) rfl ?_
  refine gd_loop (σ := Nat × Int) (μ := fun vz => vz.1) (I := fun vz => ((vz.1 : Int) ≤ n) ∧ (0 ≤ vz.2 ∧ vz.2 ≤ 9) ∧ (zz_cb S n.toNat x = zz_cb S vz.1 vz.2)) (Sf := fun vz => S) (lf := fun vz => [(0, .ref (a 0)), (2, zz_v n), (3, zz_v vz.2), (4, zz_v (n - (vz.1 : Int)))]) (n.toNat, x) (⟨by omega, hx, rfl⟩) rfl (by rw [show n - ((n.toNat : Nat) : Int) = 0 by omega]) (fun ⟨m, o⟩ hI ih5 => ?_)
  obtain ⟨hI0, hI1, hI2⟩ : ((m : Int) ≤ n) ∧ (0 ≤ o ∧ o ≤ 9) ∧ (zz_cb S n.toNat x = zz_cb S m o) := hI
  refine gd_lveq (lv' := [(0, .ref (a 0)), (2, zz_v n), (3, zz_v o), (4, zz_v (n - (m : Int)))]) rfl ?_
  refine gd_eq (S' := S) rfl ?_
  have hrr := hab o.toNat (by omega)
  refine gd_iload hC dX3_climbFrom_5 (j := 3) rfl ?_
  refine gd_iload_n hC dX3_climbFrom_7 rfl (j := 1) rfl ?_
  refine gd_icmp_ge hC dX3_climbFrom_8 (tgt := 34) (by decide) ⟨by omega, by omega⟩ ⟨by omega, by omega⟩ (fun c1 => ?_) (fun c1 => ?_)
  · skip
    refine gd_iload_n hC dX3_climbFrom_34 rfl (j := 2) rfl ?_
    exact gd_ireturn hC hr rfl hlk dX3_climbFrom_35 (by decide) ⟨_, ⟨by omega, by omega⟩, rfl, (by first | rfl | ((repeat' split) <;> first | rfl | omega)), (by first | (rw [hI2, show m = 0 by omega]; rfl) | rw [hI2, zz_cb_stop (by omega)]), trivial⟩
  · skip
    refine gd_aload_n hC dX3_climbFrom_11 rfl (j := 0) rfl ?_
    refine gd_getR hC w3 hK (ci := 3) rfl (by decide) rfl 2 (by decide) (j := 2) rfl f13 rfl dX3_climbFrom_12 ?_
    refine gd_iload_n hC dX3_climbFrom_15 rfl (j := 2) rfl ?_
    refine gd_iald hC hK (j := o.toNat) rfl (by decide) (by omega) (by omega) (by decide) dX3_climbFrom_16 (fun r2 => ?_)
    obtain ⟨r2a, r2b⟩ := id r2
    refine gd_iconst hC dX3_climbFrom_17 ?_
    refine gd_icmp_eq hC dX3_climbFrom_18 (tgt := 34) (by decide) ⟨by omega, by omega⟩ ⟨by decide, by decide⟩ (fun c3 => ?_) (fun c3 => ?_)
    · skip
      refine gd_iload_n hC dX3_climbFrom_34 rfl (j := 2) rfl ?_
      exact gd_ireturn hC hr rfl hlk dX3_climbFrom_35 (by decide) ⟨_, ⟨by omega, by omega⟩, rfl, (by first | rfl | ((repeat' split) <;> first | rfl | omega)), (by first | (rw [hI2, show m = 0 by omega]; rfl) | rw [hI2, zz_cb_stop (by omega)]), trivial⟩
    · skip
      refine gd_aload_n hC dX3_climbFrom_21 rfl (j := 0) rfl ?_
      refine gd_getR hC w3 hK (ci := 3) rfl (by decide) rfl 2 (by decide) (j := 2) rfl f13 rfl dX3_climbFrom_22 ?_
      refine gd_iload_n hC dX3_climbFrom_25 rfl (j := 2) rfl ?_
      refine gd_iald hC hK (j := o.toNat) rfl (by decide) (by omega) (by omega) (by decide) dX3_climbFrom_26 (fun r4 => ?_)
      obtain ⟨r4a, r4b⟩ := id r4
      refine gd_istore_n hC dX3_climbFrom_27 rfl (by decide) (lv' := [(3, zz_v (S 2 o.toNat)), (0, .ref (a 0)), (2, zz_v n), (4, zz_v (n - (m : Int)))]) rfl ?_
      refine gd_iinc hC dX3_climbFrom_28 (j := 3) rfl (y := n - (m : Int) + 1) (by omega) (by decide) (lv' := [(4, zz_v (n - (m : Int) + 1)), (3, zz_v (S 2 o.toNat)), (0, .ref (a 0)), (2, zz_v n)]) rfl ?_
      refine gd_goto hC dX3_climbFrom_31 (tgt := 5) (by decide) ?_
      refine gd_sub [2, 3, 1, 0] (lv' := [(0, .ref (a 0)), (2, zz_v n), (3, zz_v (S 2 o.toNat)), (4, zz_v (n - (m : Int) + 1))]) rfl ?_
      refine gd_lveq (lv' := [(0, .ref (a 0)), (2, zz_v n), (3, zz_v (S 2 o.toNat)), (4, zz_v (n - (((m - 1) : Nat) : Int)))]) (by rw [show n - (m : Int) + 1 = n - ((m - 1 : Nat) : Int) by omega]) ?_
      exact ih5 ((m - 1), (S 2 o.toNat)) ⟨by omega, by omega, by rw [hI2]; obtain ⟨q, rfl⟩ : ∃ q, m = q + 1 := ⟨m - 1, by omega⟩; rw [zz_cb, if_neg (by omega)]; rfl⟩ (show (m - 1) < m by omega)

abbrev rm_X3_isLike : Room := { frames := 0, cells := 0, slots := 0, locals := 0 }
set_option maxHeartbeats 4000000 in
set_option maxRecDepth 100000 in
theorem c_X3_isLike (l : Launch) (hl9 : l.stackTraces = false) (N0 : Nat) (G : zz_G) (Y : zz_Y) (a : Nat → Nat) (S : zz_S) (x y : Int) (i j : Nat) (hi : x = (i : Int)) (hj : y = (j : Int)) (hi2 : i < 24) (hj2 : j < 24) : CtR l yX3_isLike wsX3_isLike rm_X3_isLike 0 [.ref (a 0), zz_v x, zz_v y] N0 G Y a S (zz_li S i j) (S) (zz_li S i j = 0 ∨ zz_li S i j = 1) (False) (False) (False) := by
  refine Ct_.of (cc := cX3_isLike) (maxL := 3) (ret := (some .boolean)) (by decide) rfl (Nat.le_of_ble_eq_true rfl) ?_
  intro p e s m args below meth c hC hts hr hlk hex hF
  have hK := hF.2.1
  have w0 : ∀ w ∈ u_ws RX0 TX0 9, w.before args s = true := fun w h => hts w (List.mem_cons_of_mem _ (List.mem_append_right _ h))
  have w3 : ∀ w ∈ u_ws RX3 TX3 11, w.before args s = true := fun w h => hts w (List.mem_cons_of_mem _ (List.mem_append_left _ (List.mem_append_right _ h)))
  have f29 : (Cond.fieldLink RX3 29 "Grievancehall" "acts" "[LGrievancehall$Act;").before args s = true := hts _ (by decide +kernel)
  have f144 : (Cond.fieldLink RX3 144 "Grievancehall$Act" "owner" "I").before args s = true := hts _ (by decide +kernel)
  have f196 : (Cond.fieldLink RX3 196 "Grievancehall$Act" "kind" "I").before args s = true := hts _ (by decide +kernel)
  refine gd_lveq (lv' := [(0, .ref (a 0)), (1, zz_v x), (2, zz_v y)]) rfl ?_
  refine gd_iload_n hC dX3_isLike_0 rfl (j := 1) rfl ?_
  refine gd_iload_n hC dX3_isLike_1 rfl (j := 2) rfl ?_
  refine gd_icmp_eq hC dX3_isLike_2 (tgt := 51) (by decide) ⟨by omega, by omega⟩ ⟨by omega, by omega⟩ (fun c1 => ?_) (fun c1 => ?_)
  · skip
    refine gd_iconst hC dX3_isLike_51 ?_
    exact gd_ireturn hC hr (zz_nb (by omega)) hlk dX3_isLike_52 (by decide) ⟨_, ⟨by decide, by decide⟩, rfl, (by first | rfl | ((repeat' split) <;> first | rfl | omega)), (by unfold zz_li; omega), (zz_li_01 S i j)⟩
  · skip
    refine gd_aload_n hC dX3_isLike_5 rfl (j := 0) rfl ?_
    refine gd_getR hC w3 hK (ci := 3) rfl (by decide) rfl 6 (by decide) (j := 11) rfl f29 rfl dX3_isLike_6 ?_
    refine gd_iload_n hC dX3_isLike_9 rfl (j := 1) rfl ?_
    refine gd_aald hC hK (t := 2) (Cn := RX0) (j := i) (q := 13 + i) rfl (by decide) rfl hi (by omega) (by decide) rfl dX3_isLike_10 ?_
    refine gd_getI hC w0 hK (ci := 0) (zz_act (by omega)) (by omega) rfl 1 (by decide) rfl f196 rfl dX3_isLike_11 (fun r2 => ?_)
    obtain ⟨r2a, r2b⟩ := id r2
    refine gd_aload_n hC dX3_isLike_14 rfl (j := 0) rfl ?_
    refine gd_getR hC w3 hK (ci := 3) rfl (by decide) rfl 6 (by decide) (j := 11) rfl f29 rfl dX3_isLike_15 ?_
    refine gd_iload_n hC dX3_isLike_18 rfl (j := 2) rfl ?_
    refine gd_aald hC hK (t := 2) (Cn := RX0) (j := j) (q := 13 + j) rfl (by decide) rfl hj (by omega) (by decide) rfl dX3_isLike_19 ?_
    refine gd_getI hC w0 hK (ci := 0) (zz_act (by omega)) (by omega) rfl 1 (by decide) rfl f196 rfl dX3_isLike_20 (fun r3 => ?_)
    obtain ⟨r3a, r3b⟩ := id r3
    refine gd_icmp_ne hC dX3_isLike_23 (tgt := 51) (by decide) ⟨by omega, by omega⟩ ⟨by omega, by omega⟩ (fun c4 => ?_) (fun c4 => ?_)
    · skip
      refine gd_iconst hC dX3_isLike_51 ?_
      exact gd_ireturn hC hr (zz_nb (by omega)) hlk dX3_isLike_52 (by decide) ⟨_, ⟨by decide, by decide⟩, rfl, (by first | rfl | ((repeat' split) <;> first | rfl | omega)), (by unfold zz_li; omega), (zz_li_01 S i j)⟩
    · skip
      refine gd_aload_n hC dX3_isLike_26 rfl (j := 0) rfl ?_
      refine gd_getR hC w3 hK (ci := 3) rfl (by decide) rfl 6 (by decide) (j := 11) rfl f29 rfl dX3_isLike_27 ?_
      refine gd_iload_n hC dX3_isLike_30 rfl (j := 1) rfl ?_
      refine gd_aald hC hK (t := 2) (Cn := RX0) (j := i) (q := 13 + i) rfl (by decide) rfl hi (by omega) (by decide) rfl dX3_isLike_31 ?_
      refine gd_getI hC w0 hK (ci := 0) (zz_act (by omega)) (by omega) rfl 0 (by decide) rfl f144 rfl dX3_isLike_32 (fun r5 => ?_)
      obtain ⟨r5a, r5b⟩ := id r5
      refine gd_aload_n hC dX3_isLike_35 rfl (j := 0) rfl ?_
      refine gd_getR hC w3 hK (ci := 3) rfl (by decide) rfl 6 (by decide) (j := 11) rfl f29 rfl dX3_isLike_36 ?_
      refine gd_iload_n hC dX3_isLike_39 rfl (j := 2) rfl ?_
      refine gd_aald hC hK (t := 2) (Cn := RX0) (j := j) (q := 13 + j) rfl (by decide) rfl hj (by omega) (by decide) rfl dX3_isLike_40 ?_
      refine gd_getI hC w0 hK (ci := 0) (zz_act (by omega)) (by omega) rfl 0 (by decide) rfl f144 rfl dX3_isLike_41 (fun r6 => ?_)
      obtain ⟨r6a, r6b⟩ := id r6
      refine gd_icmp_ne hC dX3_isLike_44 (tgt := 51) (by decide) ⟨by omega, by omega⟩ ⟨by omega, by omega⟩ (fun c7 => ?_) (fun c7 => ?_)
      · skip
        refine gd_iconst hC dX3_isLike_51 ?_
        exact gd_ireturn hC hr (zz_nb (by omega)) hlk dX3_isLike_52 (by decide) ⟨_, ⟨by decide, by decide⟩, rfl, (by first | rfl | ((repeat' split) <;> first | rfl | omega)), (by unfold zz_li; omega), (zz_li_01 S i j)⟩
      · skip
        refine gd_iconst hC dX3_isLike_47 ?_
        refine gd_goto hC dX3_isLike_48 (tgt := 52) (by decide) ?_
        exact gd_ireturn hC hr (zz_nb (by omega)) hlk dX3_isLike_52 (by decide) ⟨_, ⟨by decide, by decide⟩, rfl, (by first | rfl | ((repeat' split) <;> first | rfl | omega)), (by unfold zz_li; omega), (zz_li_01 S i j)⟩

abbrev rm_X3_countLikes : Room := { frames := 1, cells := 0, slots := 0, locals := 22 }
set_option maxHeartbeats 4000000 in
set_option maxRecDepth 100000 in
theorem c_X3_countLikes (l : Launch) (hl9 : l.stackTraces = false) (N0 : Nat) (G : zz_G) (Y : zz_Y) (a : Nat → Nat) (S : zz_S) (x : Int) (i : Nat) (hi : x = (i : Int)) (hi2 : i < 24) (hn : 0 ≤ S 0 7 ∧ S 0 7 ≤ 24) : CtR l yX3_countLikes wsX3_countLikes rm_X3_countLikes 0 [.ref (a 0), zz_v x] N0 G Y a S (zz_ln S i (S 0 7).toNat) (S) (0 ≤ zz_ln S i (S 0 7).toNat ∧ zz_ln S i (S 0 7).toNat ≤ 24) (False) (False) (False) := by
  refine Ct_.of (cc := cX3_countLikes) (maxL := 4) (ret := (some .int)) (by decide) rfl (Nat.le_of_ble_eq_true rfl) ?_
  intro p e s m args below meth c hC hts hr hlk hex hF
  have hK := hF.2.1
  have w3 : ∀ w ∈ u_ws RX3 TX3 11, w.before args s = true := fun w h => hts w (List.mem_cons_of_mem _ (List.mem_append_left _ (List.mem_append_right _ h)))
  have f86 : (Cond.fieldLink RX3 86 "Grievancehall" "actCount" "I").before args s = true := hts _ (by decide +kernel)
  refine gd_lveq (lv' := [(0, .ref (a 0)), (1, zz_v x)]) rfl ?_
  refine gd_iconst hC dX3_countLikes_0 ?_
  refine gd_istore_n hC dX3_countLikes_1 rfl (by decide) (lv' := [(2, zz_v 0), (0, .ref (a 0)), (1, zz_v x)]) rfl ?_
  refine gd_iconst hC dX3_countLikes_2 ?_
  refine gd_istore_n hC dX3_countLikes_3 rfl (by decide) (lv' := [(3, zz_v 0), (2, zz_v 0), (0, .ref (a 0)), (1, zz_v x)]) rfl ?_
  refine gd_sub [2, 3, 1, 0] (lv' := [(0, .ref (a 0)), (1, zz_v x), (2, zz_v 0), (3, zz_v 0)]) rfl ?_
  refine gd_loop (σ := Nat) (μ := fun vz => (S 0 7).toNat - vz) (I := fun vz => (vz ≤ (S 0 7).toNat)) (Sf := fun vz => S) (lf := fun vz => [(0, .ref (a 0)), (1, zz_v x), (2, zz_v (zz_ln S i vz)), (3, zz_v (vz : Int))]) 0 (by omega) rfl rfl (fun j hI ih4 => ?_)
  have hI0 : j ≤ (S 0 7).toNat := hI
  refine gd_lveq (lv' := [(0, .ref (a 0)), (1, zz_v x), (2, zz_v (zz_ln S i j)), (3, zz_v (j : Int))]) rfl ?_
  refine gd_eq (S' := S) rfl ?_
  have hrg := zz_ln_rng S i j
  refine gd_iload_n hC dX3_countLikes_4 rfl (j := 3) rfl ?_
  refine gd_aload_n hC dX3_countLikes_5 rfl (j := 0) rfl ?_
  refine gd_getI hC w3 hK (ci := 3) rfl (by decide) rfl 7 (by decide) rfl f86 rfl dX3_countLikes_6 (fun r1 => ?_)
  obtain ⟨r1a, r1b⟩ := id r1
  refine gd_icmp_ge hC dX3_countLikes_9 (tgt := 30) (by decide) ⟨by omega, by omega⟩ ⟨by omega, by omega⟩ (fun c2 => ?_) (fun c2 => ?_)
  · skip
    refine gd_iload_n hC dX3_countLikes_30 rfl (j := 2) rfl ?_
    exact gd_ireturn hC hr rfl hlk dX3_countLikes_31 (by decide) ⟨_, ⟨by omega, by omega⟩, rfl, (by first | rfl | ((repeat' split) <;> first | rfl | omega)), (by rw [show (S 0 7).toNat = j by omega]), (by rw [show (S 0 7).toNat = j by omega]; omega)⟩
  · skip
    refine gd_aload_n hC dX3_countLikes_12 rfl (j := 0) rfl ?_
    refine gd_iload_n hC dX3_countLikes_13 rfl (j := 1) rfl ?_
    refine gd_iload_n hC dX3_countLikes_14 rfl (j := 3) rfl ?_
    refine gd_callVR (As := [zz_v x, zz_v (j : Int)]) (rest := []) hC hF (fun hR => c_X3_isLike l hl9 N0 G Y a (S) x (j : Int) i j hi rfl (by omega) (by omega)) (cwV 2 hts gX3_countLikes_X3_isLike rfl rfl rfl (by decide +kernel) ⟨by decide, by decide⟩) rfl (by decide) (ci := 3) rfl rfl rfl rfl (Nat.le_of_ble_eq_true rfl) dX3_countLikes_15 ⟨by decide, by decide⟩ (fun E hx => zz_xn hx) (fun q3 q3r => ?_)
    obtain ⟨q3a, q3b⟩ := id q3r
    refine gd_if_eq hC dX3_countLikes_18 (tgt := 24) (by decide) ⟨by omega, by omega⟩ (fun c4 => ?_) (fun c4 => ?_)
    · skip
      refine gd_iinc hC dX3_countLikes_24 (j := 3) rfl (y := ((j + 1 : Nat) : Int)) (by omega) (by decide) (lv' := [(3, zz_v ((j + 1 : Nat) : Int)), (0, .ref (a 0)), (1, zz_v x), (2, zz_v (zz_ln S i j))]) rfl ?_
      refine gd_goto hC dX3_countLikes_27 (tgt := 4) (by decide) ?_
      refine gd_sub [1, 2, 3, 0] (lv' := [(0, .ref (a 0)), (1, zz_v x), (2, zz_v (zz_ln S i j)), (3, zz_v ((j + 1 : Nat) : Int))]) rfl ?_
      have hz : zz_ln S i j = zz_ln S i (j + 1) := by
        rw [zz_ln]
        omega
      refine gd_lveq (lv' := [(0, .ref (a 0)), (1, zz_v x), (2, zz_v (zz_ln S i (j + 1))), (3, zz_v (((j + 1) : Nat) : Int))]) (by rw [hz]) ?_
      exact ih4 (j + 1) (by omega) (show (S 0 7).toNat - (j + 1) < (S 0 7).toNat - j by omega)
    · skip
      refine gd_iinc hC dX3_countLikes_21 (j := 2) rfl (y := zz_ln S i j + 1) (by omega) (by decide) (lv' := [(2, zz_v (zz_ln S i j + 1)), (0, .ref (a 0)), (1, zz_v x), (3, zz_v (j : Int))]) rfl ?_
      refine gd_iinc hC dX3_countLikes_24 (j := 3) rfl (y := ((j + 1 : Nat) : Int)) (by omega) (by decide) (lv' := [(3, zz_v ((j + 1 : Nat) : Int)), (2, zz_v (zz_ln S i j + 1)), (0, .ref (a 0)), (1, zz_v x)]) rfl ?_
      refine gd_goto hC dX3_countLikes_27 (tgt := 4) (by decide) ?_
      refine gd_sub [2, 3, 1, 0] (lv' := [(0, .ref (a 0)), (1, zz_v x), (2, zz_v (zz_ln S i j + 1)), (3, zz_v ((j + 1 : Nat) : Int))]) rfl ?_
      have hz : zz_ln S i j + 1 = zz_ln S i (j + 1) := by
        rw [zz_ln]
        omega
      refine gd_lveq (lv' := [(0, .ref (a 0)), (1, zz_v x), (2, zz_v (zz_ln S i (j + 1))), (3, zz_v (((j + 1) : Nat) : Int))]) (by rw [hz]) ?_
      exact ih4 (j + 1) (by omega) (show (S 0 7).toNat - (j + 1) < (S 0 7).toNat - j by omega)

abbrev rm_X3_sumOfLikes : Room := { frames := 1, cells := 0, slots := 0, locals := 22 }
set_option maxHeartbeats 4000000 in
set_option maxRecDepth 100000 in
theorem c_X3_sumOfLikes (l : Launch) (hl9 : l.stackTraces = false) (N0 : Nat) (G : zz_G) (Y : zz_Y) (a : Nat → Nat) (S : zz_S) (x : Int) (i : Nat) (hi : x = (i : Int)) (hi2 : i < 24) (hn : 0 ≤ S 0 7 ∧ S 0 7 ≤ 24) (hm : zz_rc S 13 24 3 0 100) : CtR l yX3_sumOfLikes wsX3_sumOfLikes rm_X3_sumOfLikes 0 [.ref (a 0), zz_v x] N0 G Y a S (zz_ls S i (S 0 7).toNat) (S) (0 ≤ zz_ls S i (S 0 7).toNat ∧ zz_ls S i (S 0 7).toNat ≤ 2400) (False) (False) (False) := by
  refine Ct_.of (cc := cX3_sumOfLikes) (maxL := 4) (ret := (some .int)) (by decide) rfl (Nat.le_of_ble_eq_true rfl) ?_
  intro p e s m args below meth c hC hts hr hlk hex hF
  have hK := hF.2.1
  have w0 : ∀ w ∈ u_ws RX0 TX0 9, w.before args s = true := fun w h => hts w (List.mem_cons_of_mem _ (List.mem_append_right _ h))
  have w3 : ∀ w ∈ u_ws RX3 TX3 11, w.before args s = true := fun w h => hts w (List.mem_cons_of_mem _ (List.mem_append_left _ (List.mem_append_right _ h)))
  have f29 : (Cond.fieldLink RX3 29 "Grievancehall" "acts" "[LGrievancehall$Act;").before args s = true := hts _ (by decide +kernel)
  have f86 : (Cond.fieldLink RX3 86 "Grievancehall" "actCount" "I").before args s = true := hts _ (by decide +kernel)
  have f199 : (Cond.fieldLink RX3 199 "Grievancehall$Act" "measure" "I").before args s = true := hts _ (by decide +kernel)
  refine gd_lveq (lv' := [(0, .ref (a 0)), (1, zz_v x)]) rfl ?_
  refine gd_iconst hC dX3_sumOfLikes_0 ?_
  refine gd_istore_n hC dX3_sumOfLikes_1 rfl (by decide) (lv' := [(2, zz_v 0), (0, .ref (a 0)), (1, zz_v x)]) rfl ?_
  refine gd_iconst hC dX3_sumOfLikes_2 ?_
  refine gd_istore_n hC dX3_sumOfLikes_3 rfl (by decide) (lv' := [(3, zz_v 0), (2, zz_v 0), (0, .ref (a 0)), (1, zz_v x)]) rfl ?_
  refine gd_sub [2, 3, 1, 0] (lv' := [(0, .ref (a 0)), (1, zz_v x), (2, zz_v 0), (3, zz_v 0)]) rfl ?_
  refine gd_loop (σ := Nat) (μ := fun vz => (S 0 7).toNat - vz) (I := fun vz => (vz ≤ (S 0 7).toNat)) (Sf := fun vz => S) (lf := fun vz => [(0, .ref (a 0)), (1, zz_v x), (2, zz_v (zz_ls S i vz)), (3, zz_v (vz : Int))]) 0 (by omega) rfl rfl (fun j hI ih4 => ?_)
  have hI0 : j ≤ (S 0 7).toNat := hI
  refine gd_lveq (lv' := [(0, .ref (a 0)), (1, zz_v x), (2, zz_v (zz_ls S i j)), (3, zz_v (j : Int))]) rfl ?_
  refine gd_eq (S' := S) rfl ?_
  have hrg := zz_ls_rng S i 24 hm j (by omega)
  refine gd_iload_n hC dX3_sumOfLikes_4 rfl (j := 3) rfl ?_
  refine gd_aload_n hC dX3_sumOfLikes_5 rfl (j := 0) rfl ?_
  refine gd_getI hC w3 hK (ci := 3) rfl (by decide) rfl 7 (by decide) rfl f86 rfl dX3_sumOfLikes_6 (fun r1 => ?_)
  obtain ⟨r1a, r1b⟩ := id r1
  refine gd_icmp_ge hC dX3_sumOfLikes_9 (tgt := 39) (by decide) ⟨by omega, by omega⟩ ⟨by omega, by omega⟩ (fun c2 => ?_) (fun c2 => ?_)
  · skip
    refine gd_iload_n hC dX3_sumOfLikes_39 rfl (j := 2) rfl ?_
    exact gd_ireturn hC hr rfl hlk dX3_sumOfLikes_40 (by decide) ⟨_, ⟨by omega, by omega⟩, rfl, (by first | rfl | ((repeat' split) <;> first | rfl | omega)), (by rw [show (S 0 7).toNat = j by omega]), (by rw [show (S 0 7).toNat = j by omega]; omega)⟩
  · skip
    refine gd_aload_n hC dX3_sumOfLikes_12 rfl (j := 0) rfl ?_
    refine gd_iload_n hC dX3_sumOfLikes_13 rfl (j := 1) rfl ?_
    refine gd_iload_n hC dX3_sumOfLikes_14 rfl (j := 3) rfl ?_
    refine gd_callVR (As := [zz_v x, zz_v (j : Int)]) (rest := []) hC hF (fun hR => c_X3_isLike l hl9 N0 G Y a (S) x (j : Int) i j hi rfl (by omega) (by omega)) (cwV 2 hts gX3_sumOfLikes_X3_isLike rfl rfl rfl (by decide +kernel) ⟨by decide, by decide⟩) rfl (by decide) (ci := 3) rfl rfl rfl rfl (Nat.le_of_ble_eq_true rfl) dX3_sumOfLikes_15 ⟨by decide, by decide⟩ (fun E hx => zz_xn hx) (fun q3 q3r => ?_)
    obtain ⟨q3a, q3b⟩ := id q3r
    refine gd_if_eq hC dX3_sumOfLikes_18 (tgt := 33) (by decide) ⟨by omega, by omega⟩ (fun c4 => ?_) (fun c4 => ?_)
    · skip
      refine gd_iinc hC dX3_sumOfLikes_33 (j := 3) rfl (y := ((j + 1 : Nat) : Int)) (by omega) (by decide) (lv' := [(3, zz_v ((j + 1 : Nat) : Int)), (0, .ref (a 0)), (1, zz_v x), (2, zz_v (zz_ls S i j))]) rfl ?_
      refine gd_goto hC dX3_sumOfLikes_36 (tgt := 4) (by decide) ?_
      refine gd_sub [1, 2, 3, 0] (lv' := [(0, .ref (a 0)), (1, zz_v x), (2, zz_v (zz_ls S i j)), (3, zz_v ((j + 1 : Nat) : Int))]) rfl ?_
      have hz : zz_ls S i j = zz_ls S i (j + 1) := by
        rw [zz_ls]
        split <;> omega
      refine gd_lveq (lv' := [(0, .ref (a 0)), (1, zz_v x), (2, zz_v (zz_ls S i (j + 1))), (3, zz_v (((j + 1) : Nat) : Int))]) (by rw [hz]) ?_
      exact ih4 (j + 1) (by omega) (show (S 0 7).toNat - (j + 1) < (S 0 7).toNat - j by omega)
    · skip
      refine gd_iload_n hC dX3_sumOfLikes_21 rfl (j := 2) rfl ?_
      refine gd_aload_n hC dX3_sumOfLikes_22 rfl (j := 0) rfl ?_
      refine gd_getR hC w3 hK (ci := 3) rfl (by decide) rfl 6 (by decide) (j := 11) rfl f29 rfl dX3_sumOfLikes_23 ?_
      refine gd_iload_n hC dX3_sumOfLikes_26 rfl (j := 3) rfl ?_
      refine gd_aald hC hK (t := 2) (Cn := RX0) (j := j) (q := 13 + j) rfl (by decide) rfl rfl (by omega) (by decide) rfl dX3_sumOfLikes_27 ?_
      refine gd_getI hC w0 hK (ci := 0) (zz_act (by omega)) (by omega) rfl 3 (by decide) rfl f199 rfl dX3_sumOfLikes_28 (fun r5 => ?_)
      obtain ⟨r5a, r5b⟩ := id r5
      refine gd_iadd hC dX3_sumOfLikes_31 ?_
      refine gd_istore_n hC dX3_sumOfLikes_32 rfl (by decide) (lv' := [(2, zz_v ((zz_ls S i j) + (S (13 + j) 3))), (0, .ref (a 0)), (1, zz_v x), (3, zz_v (j : Int))]) rfl ?_
      refine gd_iinc hC dX3_sumOfLikes_33 (j := 3) rfl (y := ((j + 1 : Nat) : Int)) (by omega) (by decide) (lv' := [(3, zz_v ((j + 1 : Nat) : Int)), (2, zz_v ((zz_ls S i j) + (S (13 + j) 3))), (0, .ref (a 0)), (1, zz_v x)]) rfl ?_
      refine gd_goto hC dX3_sumOfLikes_36 (tgt := 4) (by decide) ?_
      refine gd_sub [2, 3, 1, 0] (lv' := [(0, .ref (a 0)), (1, zz_v x), (2, zz_v ((zz_ls S i j) + (S (13 + j) 3))), (3, zz_v ((j + 1 : Nat) : Int))]) rfl ?_
      have hz : (zz_ls S i j) + (S (13 + j) 3) = zz_ls S i (j + 1) := by
        rw [zz_ls]
        split <;> omega
      refine gd_lveq (lv' := [(0, .ref (a 0)), (1, zz_v x), (2, zz_v (zz_ls S i (j + 1))), (3, zz_v (((j + 1) : Nat) : Int))]) (by rw [hz]) ?_
      exact ih4 (j + 1) (by omega) (show (S 0 7).toNat - (j + 1) < (S 0 7).toNat - j by omega)

abbrev rm_X3_failsRule : Room := { frames := 1, cells := 0, slots := 0, locals := 24 }
set_option maxHeartbeats 4000000 in
set_option maxRecDepth 100000 in
theorem c_X3_failsRule (l : Launch) (hl9 : l.stackTraces = false) (N0 : Nat) (G : zz_G) (Y : zz_Y) (a : Nat → Nat) (S : zz_S) (x : Int) (i : Nat) (hi : x = (i : Int)) (hi2 : i < 24) (hc : 0 ≤ S 7 3 ∧ S 7 3 ≤ 512) : CtR l yX3_failsRule wsX3_failsRule rm_X3_failsRule 0 [.ref (a 0), zz_v x] N0 G Y a S (zz_fr S i) (S) (zz_fr S i = 0 ∨ zz_fr S i = 1) (False) (False) (False) := by
  refine Ct_.of (cc := cX3_failsRule) (maxL := 2) (ret := (some .boolean)) (by decide) rfl (Nat.le_of_ble_eq_true rfl) ?_
  intro p e s m args below meth c hC hts hr hlk hex hF
  have hK := hF.2.1
  have w0 : ∀ w ∈ u_ws RX0 TX0 9, w.before args s = true := fun w h => hts w (List.mem_cons_of_mem _ (List.mem_append_left _ (List.mem_append_right _ h)))
  have w3 : ∀ w ∈ u_ws RX3 TX3 11, w.before args s = true := fun w h => hts w (List.mem_cons_of_mem _ (List.mem_append_left _ (List.mem_append_left _ (List.mem_append_right _ h))))
  have f24 : (Cond.fieldLink RX3 24 "Grievancehall" "limits" "LGrievancehall$Changes;").before args s = true := hts _ (by decide +kernel)
  have f29 : (Cond.fieldLink RX3 29 "Grievancehall" "acts" "[LGrievancehall$Act;").before args s = true := hts _ (by decide +kernel)
  have f196 : (Cond.fieldLink RX3 196 "Grievancehall$Act" "kind" "I").before args s = true := hts _ (by decide +kernel)
  have f199 : (Cond.fieldLink RX3 199 "Grievancehall$Act" "measure" "I").before args s = true := hts _ (by decide +kernel)
  have f242 : (Cond.fieldLink RX3 242 "Grievancehall$Act" "day" "I").before args s = true := hts _ (by decide +kernel)
  refine gd_lveq (lv' := [(0, .ref (a 0)), (1, zz_v x)]) rfl ?_
  refine gd_aload_n hC dX3_failsRule_0 rfl (j := 0) rfl ?_
  refine gd_getR hC w3 hK (ci := 3) rfl (by decide) rfl 6 (by decide) (j := 11) rfl f29 rfl dX3_failsRule_1 ?_
  refine gd_iload_n hC dX3_failsRule_4 rfl (j := 1) rfl ?_
  refine gd_aald hC hK (t := 2) (Cn := RX0) (j := i) (q := 13 + i) rfl (by decide) rfl hi (by omega) (by decide) rfl dX3_failsRule_5 ?_
  refine gd_getI hC w0 hK (ci := 0) (zz_act (by omega)) (by omega) rfl 3 (by decide) rfl f199 rfl dX3_failsRule_6 (fun r1 => ?_)
  obtain ⟨r1a, r1b⟩ := id r1
  refine gd_aload_n hC dX3_failsRule_9 rfl (j := 0) rfl ?_
  refine gd_getR hC w3 hK (ci := 3) rfl (by decide) rfl 5 (by decide) (j := 7) rfl f24 rfl dX3_failsRule_10 ?_
  refine gd_aload_n hC dX3_failsRule_13 rfl (j := 0) rfl ?_
  refine gd_getR hC w3 hK (ci := 3) rfl (by decide) rfl 6 (by decide) (j := 11) rfl f29 rfl dX3_failsRule_14 ?_
  refine gd_iload_n hC dX3_failsRule_17 rfl (j := 1) rfl ?_
  refine gd_aald hC hK (t := 2) (Cn := RX0) (j := i) (q := 13 + i) rfl (by decide) rfl hi (by omega) (by decide) rfl dX3_failsRule_18 ?_
  refine gd_getI hC w0 hK (ci := 0) (zz_act (by omega)) (by omega) rfl 1 (by decide) rfl f196 rfl dX3_failsRule_19 (fun r2 => ?_)
  obtain ⟨r2a, r2b⟩ := id r2
  refine gd_aload_n hC dX3_failsRule_22 rfl (j := 0) rfl ?_
  refine gd_getR hC w3 hK (ci := 3) rfl (by decide) rfl 6 (by decide) (j := 11) rfl f29 rfl dX3_failsRule_23 ?_
  refine gd_iload_n hC dX3_failsRule_26 rfl (j := 1) rfl ?_
  refine gd_aald hC hK (t := 2) (Cn := RX0) (j := i) (q := 13 + i) rfl (by decide) rfl hi (by omega) (by decide) rfl dX3_failsRule_27 ?_
  refine gd_getI hC w0 hK (ci := 0) (zz_act (by omega)) (by omega) rfl 2 (by decide) rfl f242 rfl dX3_failsRule_28 (fun r3 => ?_)
  obtain ⟨r3a, r3b⟩ := id r3
  refine gd_bipush hC dX3_failsRule_31 rfl ?_
  refine gd_callVR (As := [zz_v (S (13 + i) 1), zz_v (S (13 + i) 2), zz_v 30]) (rest := [zz_v (S (13 + i) 3)]) hC hF (fun hR => c_X1_valueOn_7 l hl9 N0 G Y a (S) (S (13 + i) 1) (S (13 + i) 2) 30 ⟨by omega, by omega⟩ ⟨by omega, by omega⟩ ⟨by decide, by decide⟩ (by omega)) (cwV 3 hts gX3_failsRule_X1_valueOn rfl rfl rfl (by decide +kernel) ⟨by decide, by decide⟩) rfl (by decide) (ci := 1) rfl rfl rfl rfl (Nat.le_of_ble_eq_true rfl) dX3_failsRule_33 ⟨by decide, by decide⟩ (fun E hx => zz_xn hx) (fun q4 q4r => ?_)
  obtain ⟨q4a, q4b⟩ := id q4r
  refine gd_icmp_le hC dX3_failsRule_36 (tgt := 43) (by decide) ⟨by omega, by omega⟩ ⟨by omega, by omega⟩ (fun c5 => ?_) (fun c5 => ?_)
  · skip
    refine gd_iconst hC dX3_failsRule_43 ?_
    exact gd_ireturn hC hr (zz_nb (by omega)) hlk dX3_failsRule_44 (by decide) ⟨_, ⟨by decide, by decide⟩, rfl, (by first | rfl | ((repeat' split) <;> first | rfl | omega)), (by unfold zz_fr; omega), (by unfold zz_fr; omega)⟩
  · skip
    refine gd_iconst hC dX3_failsRule_39 ?_
    refine gd_goto hC dX3_failsRule_40 (tgt := 44) (by decide) ?_
    exact gd_ireturn hC hr (zz_nb (by omega)) hlk dX3_failsRule_44 (by decide) ⟨_, ⟨by decide, by decide⟩, rfl, (by first | rfl | ((repeat' split) <;> first | rfl | omega)), (by unfold zz_fr; omega), (by unfold zz_fr; omega)⟩

abbrev rm_X3_isUnequal : Room := { frames := 2, cells := 0, slots := 0, locals := 45 }
set_option maxHeartbeats 4000000 in
set_option maxRecDepth 100000 in
theorem c_X3_isUnequal (l : Launch) (hl9 : l.stackTraces = false) (N0 : Nat) (G : zz_G) (Y : zz_Y) (a : Nat → Nat) (S : zz_S) (x : Int) (i : Nat) (hi : x = (i : Int)) (hi2 : i < 24) (hn : 0 ≤ S 0 7 ∧ S 0 7 ≤ 24) (hm : zz_rc S 13 24 3 0 100) : CtR l yX3_isUnequal wsX3_isUnequal rm_X3_isUnequal 0 [.ref (a 0), zz_v x] N0 G Y a S (zz_un S i) (S) (zz_un S i = 0 ∨ zz_un S i = 1) (False) (False) (False) := by
  refine Ct_.of (cc := cX3_isUnequal) (maxL := 4) (ret := (some .boolean)) (by decide) rfl (Nat.le_of_ble_eq_true rfl) ?_
  intro p e s m args below meth c hC hts hr hlk hex hF
  have hK := hF.2.1
  have w0 : ∀ w ∈ u_ws RX0 TX0 9, w.before args s = true := fun w h => hts w (List.mem_cons_of_mem _ (List.mem_append_right _ h))
  have w3 : ∀ w ∈ u_ws RX3 TX3 11, w.before args s = true := fun w h => hts w (List.mem_cons_of_mem _ (List.mem_append_left _ (List.mem_append_right _ h)))
  have f29 : (Cond.fieldLink RX3 29 "Grievancehall" "acts" "[LGrievancehall$Act;").before args s = true := hts _ (by decide +kernel)
  have f199 : (Cond.fieldLink RX3 199 "Grievancehall$Act" "measure" "I").before args s = true := hts _ (by decide +kernel)
  refine gd_lveq (lv' := [(0, .ref (a 0)), (1, zz_v x)]) rfl ?_
  refine gd_aload_n hC dX3_isUnequal_0 rfl (j := 0) rfl ?_
  refine gd_iload_n hC dX3_isUnequal_1 rfl (j := 1) rfl ?_
  refine gd_callVR (As := [zz_v x]) (rest := []) hC hF (fun hR => c_X3_countLikes l hl9 N0 G Y a (S) x i hi (by omega) (by omega)) (cwV 1 hts gX3_isUnequal_X3_countLikes rfl rfl rfl (by decide +kernel) ⟨by decide, by decide⟩) rfl (by decide) (ci := 3) rfl rfl rfl rfl (Nat.le_of_ble_eq_true rfl) dX3_isUnequal_2 ⟨by decide, by decide⟩ (fun E hx => zz_xn hx) (fun q1 q1r => ?_)
  obtain ⟨q1a, q1b⟩ := id q1r
  refine gd_istore_n hC dX3_isUnequal_5 rfl (by decide) (lv' := [(2, zz_v (zz_ln S i (S 0 7).toNat)), (0, .ref (a 0)), (1, zz_v x)]) rfl ?_
  refine gd_iload_n hC dX3_isUnequal_6 rfl (j := 0) rfl ?_
  refine gd_iconst hC dX3_isUnequal_7 ?_
  refine gd_icmp_ge hC dX3_isUnequal_8 (tgt := 13) (by decide) ⟨by omega, by omega⟩ ⟨by decide, by decide⟩ (fun c2 => ?_) (fun c2 => ?_)
  · skip
    refine gd_aload_n hC dX3_isUnequal_13 rfl (j := 1) rfl ?_
    refine gd_iload_n hC dX3_isUnequal_14 rfl (j := 2) rfl ?_
    refine gd_callVR (As := [zz_v x]) (rest := []) hC hF (fun hR => c_X3_sumOfLikes l hl9 N0 G Y a (S) x i hi (by omega) (by omega) hm) (cwV 1 hts gX3_isUnequal_X3_sumOfLikes rfl rfl rfl (by decide +kernel) ⟨by decide, by decide⟩) rfl (by decide) (ci := 3) rfl rfl rfl rfl (Nat.le_of_ble_eq_true rfl) dX3_isUnequal_15 ⟨by decide, by decide⟩ (fun E hx => zz_xn hx) (fun q3 q3r => ?_)
    obtain ⟨q3a, q3b⟩ := id q3r
    refine gd_iload_n hC dX3_isUnequal_18 rfl (j := 0) rfl ?_
    refine gd_idiv hC dX3_isUnequal_19 ⟨by omega, by omega⟩ ⟨by omega, by omega⟩ ?_
    have hdv1 : 0 ≤ zz_ls S i (S 0 7).toNat / zz_ln S i (S 0 7).toNat := Int.ediv_nonneg (by omega) (by omega)
    have hdv2 : zz_ls S i (S 0 7).toNat / zz_ln S i (S 0 7).toNat ≤ zz_ls S i (S 0 7).toNat := Int.ediv_le_self _ (by omega)
    refine gd_istore_n hC dX3_isUnequal_20 rfl (by decide) (lv' := [(3, zz_v ((zz_ls S i (S 0 7).toNat) / (zz_ln S i (S 0 7).toNat))), (2, zz_v (zz_ln S i (S 0 7).toNat)), (0, .ref (a 0)), (1, zz_v x)]) rfl ?_
    refine gd_aload_n hC dX3_isUnequal_21 rfl (j := 2) rfl ?_
    refine gd_getR hC w3 hK (ci := 3) rfl (by decide) rfl 6 (by decide) (j := 11) rfl f29 rfl dX3_isUnequal_22 ?_
    refine gd_iload_n hC dX3_isUnequal_25 rfl (j := 3) rfl ?_
    refine gd_aald hC hK (t := 2) (Cn := RX0) (j := i) (q := 13 + i) rfl (by decide) rfl hi (by omega) (by decide) rfl dX3_isUnequal_26 ?_
    refine gd_getI hC w0 hK (ci := 0) (zz_act (by omega)) (by omega) rfl 3 (by decide) rfl f199 rfl dX3_isUnequal_27 (fun r4 => ?_)
    obtain ⟨r4a, r4b⟩ := id r4
    refine gd_iconst hC dX3_isUnequal_30 ?_
    refine gd_iload_n hC dX3_isUnequal_31 rfl (j := 0) rfl ?_
    refine gd_imul hC dX3_isUnequal_32 ?_
    refine gd_icmp_le hC dX3_isUnequal_33 (tgt := 40) (by decide) ⟨by omega, by omega⟩ ⟨by omega, by omega⟩ (fun c5 => ?_) (fun c5 => ?_)
    · skip
      refine gd_iconst hC dX3_isUnequal_40 ?_
      exact gd_ireturn hC hr (zz_nb (by omega)) hlk dX3_isUnequal_41 (by decide) ⟨_, ⟨by decide, by decide⟩, rfl, (by first | rfl | ((repeat' split) <;> first | rfl | omega)), (by unfold zz_un; omega), (by unfold zz_un; omega)⟩
    · skip
      refine gd_iconst hC dX3_isUnequal_36 ?_
      refine gd_goto hC dX3_isUnequal_37 (tgt := 41) (by decide) ?_
      exact gd_ireturn hC hr (zz_nb (by omega)) hlk dX3_isUnequal_41 (by decide) ⟨_, ⟨by decide, by decide⟩, rfl, (by first | rfl | ((repeat' split) <;> first | rfl | omega)), (by unfold zz_un; omega), (by unfold zz_un; omega)⟩
  · skip
    refine gd_iconst hC dX3_isUnequal_11 ?_
    exact gd_ireturn hC hr (zz_nb (by omega)) hlk dX3_isUnequal_12 (by decide) ⟨_, ⟨by decide, by decide⟩, rfl, (by first | rfl | ((repeat' split) <;> first | rfl | omega)), (by unfold zz_un; omega), (by unfold zz_un; omega)⟩

abbrev rm_X3_faultOf : Room := { frames := 3, cells := 0, slots := 0, locals := 68 }
set_option maxHeartbeats 4000000 in
set_option maxRecDepth 100000 in
theorem c_X3_faultOf (l : Launch) (hl9 : l.stackTraces = false) (N0 : Nat) (G : zz_G) (Y : zz_Y) (a : Nat → Nat) (S : zz_S) (x : Int) (i : Nat) (hi : x = (i : Int)) (hi2 : i < 24) (hn : 0 ≤ S 0 7 ∧ S 0 7 ≤ 24) (hm : zz_rc S 13 24 3 0 100) (hc : 0 ≤ S 7 3 ∧ S 7 3 ≤ 512) : CtR l yX3_faultOf wsX3_faultOf rm_X3_faultOf 0 [.ref (a 0), zz_v x] N0 G Y a S (zz_ft S i) (S) (0 ≤ zz_ft S i ∧ zz_ft S i ≤ 3) (False) (False) (False) := by
  refine Ct_.of (cc := cX3_faultOf) (maxL := 3) (ret := (some .int)) (by decide) rfl (Nat.le_of_ble_eq_true rfl) ?_
  intro p e s m args below meth c hC hts hr hlk hex hF
  have hK := hF.2.1
  refine gd_lveq (lv' := [(0, .ref (a 0)), (1, zz_v x)]) rfl ?_
  refine gd_iconst hC dX3_faultOf_0 ?_
  refine gd_istore_n hC dX3_faultOf_1 rfl (by decide) (lv' := [(2, zz_v 0), (0, .ref (a 0)), (1, zz_v x)]) rfl ?_
  refine gd_aload_n hC dX3_faultOf_2 rfl (j := 1) rfl ?_
  refine gd_iload_n hC dX3_faultOf_3 rfl (j := 2) rfl ?_
  refine gd_callVR (As := [zz_v x]) (rest := []) hC hF (fun hR => c_X3_failsRule l hl9 N0 G Y a (S) x i hi (by omega) (by omega)) (cwV 1 hts gX3_faultOf_X3_failsRule rfl rfl rfl (by decide +kernel) ⟨by decide, by decide⟩) rfl (by decide) (ci := 3) rfl rfl rfl rfl (Nat.le_of_ble_eq_true rfl) dX3_faultOf_4 ⟨by decide, by decide⟩ (fun E hx => zz_xn hx) (fun q1 q1r => ?_)
  obtain ⟨q1a, q1b⟩ := id q1r
  refine gd_if_eq hC dX3_faultOf_7 (tgt := 13) (by decide) ⟨by omega, by omega⟩ (fun c2 => ?_) (fun c2 => ?_)
  · skip
    refine gd_aload_n hC dX3_faultOf_13 rfl (j := 1) rfl ?_
    refine gd_iload_n hC dX3_faultOf_14 rfl (j := 2) rfl ?_
    refine gd_callVR (As := [zz_v x]) (rest := []) hC hF (fun hR => c_X3_isUnequal l hl9 N0 G Y a (S) x i hi (by omega) (by omega) hm) (cwV 1 hts gX3_faultOf_X3_isUnequal rfl rfl rfl (by decide +kernel) ⟨by decide, by decide⟩) rfl (by decide) (ci := 3) rfl rfl rfl rfl (Nat.le_of_ble_eq_true rfl) dX3_faultOf_15 ⟨by decide, by decide⟩ (fun E hx => zz_xn hx) (fun q3 q3r => ?_)
    obtain ⟨q3a, q3b⟩ := id q3r
    refine gd_if_eq hC dX3_faultOf_18 (tgt := 24) (by decide) ⟨by omega, by omega⟩ (fun c4 => ?_) (fun c4 => ?_)
    · skip
      refine gd_iload_n hC dX3_faultOf_24 rfl (j := 0) rfl ?_
      exact gd_ireturn hC hr rfl hlk dX3_faultOf_25 (by decide) ⟨_, ⟨by decide, by decide⟩, rfl, (by first | rfl | ((repeat' split) <;> first | rfl | omega)), (by unfold zz_ft; omega), (zz_ft_rng S i)⟩
    · skip
      refine gd_iinc hC dX3_faultOf_21 (j := 0) rfl (y := 2) (by omega) (by decide) (lv' := [(2, zz_v 2), (0, .ref (a 0)), (1, zz_v x)]) rfl ?_
      refine gd_iload_n hC dX3_faultOf_24 rfl (j := 0) rfl ?_
      exact gd_ireturn hC hr rfl hlk dX3_faultOf_25 (by decide) ⟨_, ⟨by decide, by decide⟩, rfl, (by first | rfl | ((repeat' split) <;> first | rfl | omega)), (by unfold zz_ft; omega), (zz_ft_rng S i)⟩
  · skip
    refine gd_iinc hC dX3_faultOf_10 (j := 0) rfl (y := 1) (by omega) (by decide) (lv' := [(2, zz_v 1), (0, .ref (a 0)), (1, zz_v x)]) rfl ?_
    refine gd_aload_n hC dX3_faultOf_13 rfl (j := 1) rfl ?_
    refine gd_iload_n hC dX3_faultOf_14 rfl (j := 2) rfl ?_
    refine gd_callVR (As := [zz_v x]) (rest := []) hC hF (fun hR => c_X3_isUnequal l hl9 N0 G Y a (S) x i hi (by omega) (by omega) hm) (cwV 1 hts gX3_faultOf_X3_isUnequal rfl rfl rfl (by decide +kernel) ⟨by decide, by decide⟩) rfl (by decide) (ci := 3) rfl rfl rfl rfl (Nat.le_of_ble_eq_true rfl) dX3_faultOf_15 ⟨by decide, by decide⟩ (fun E hx => zz_xn hx) (fun q5 q5r => ?_)
    obtain ⟨q5a, q5b⟩ := id q5r
    refine gd_if_eq hC dX3_faultOf_18 (tgt := 24) (by decide) ⟨by omega, by omega⟩ (fun c6 => ?_) (fun c6 => ?_)
    · skip
      refine gd_iload_n hC dX3_faultOf_24 rfl (j := 0) rfl ?_
      exact gd_ireturn hC hr rfl hlk dX3_faultOf_25 (by decide) ⟨_, ⟨by decide, by decide⟩, rfl, (by first | rfl | ((repeat' split) <;> first | rfl | omega)), (by unfold zz_ft; omega), (zz_ft_rng S i)⟩
    · skip
      refine gd_iinc hC dX3_faultOf_21 (j := 0) rfl (y := 3) (by omega) (by decide) (lv' := [(2, zz_v 3), (0, .ref (a 0)), (1, zz_v x)]) rfl ?_
      refine gd_iload_n hC dX3_faultOf_24 rfl (j := 0) rfl ?_
      exact gd_ireturn hC hr rfl hlk dX3_faultOf_25 (by decide) ⟨_, ⟨by decide, by decide⟩, rfl, (by first | rfl | ((repeat' split) <;> first | rfl | omega)), (by unfold zz_ft; omega), (zz_ft_rng S i)⟩

abbrev rm_X0_begin : Room := { frames := 0, cells := 0, slots := 0, locals := 0 }
set_option maxHeartbeats 4000000 in
set_option maxRecDepth 100000 in
theorem c_X0_begin (l : Launch) (hl9 : l.stackTraces = false) (N0 : Nat) (G : zz_G) (Y : zz_Y) (a : Nat → Nat) (S : zz_S) (i : Nat) (w kn d ms hm : Int) (hi2 : i < 24) (h1 : zz_R w) (h2 : zz_R kn) (h3 : zz_R d) (h4 : zz_R ms) (h5 : zz_R hm) : CtN l yX0_begin wsX0_begin rm_X0_begin 0 [.ref (a (13 + i)), zz_v w, zz_v kn, zz_v d, zz_v ms, zz_v hm] N0 G Y a S (zz_u (zz_u (zz_u (zz_u (zz_u (S) (13 + i) (0) (w)) (13 + i) (1) (kn)) (13 + i) (2) (d)) (13 + i) (3) (ms)) (13 + i) (4) (hm)) (True) (False) (False) (False) := by
  refine Ct_.of (cc := cX0_begin) (maxL := 6) (ret := none) (by decide) rfl (Nat.le_of_ble_eq_true rfl) ?_
  intro p e s m args below meth c hC hts hr hlk hex hF
  have hK := hF.2.1
  have w0 : ∀ w ∈ u_ws RX0 TX0 9, w.before args s = true := fun w h => hts w (List.mem_cons_of_mem _ (List.mem_append_right _ h))
  have f19 : (Cond.fieldLink RX0 19 "Grievancehall$Act" "owner" "I").before args s = true := hts _ (by decide +kernel)
  have f22 : (Cond.fieldLink RX0 22 "Grievancehall$Act" "kind" "I").before args s = true := hts _ (by decide +kernel)
  have f25 : (Cond.fieldLink RX0 25 "Grievancehall$Act" "day" "I").before args s = true := hts _ (by decide +kernel)
  have f28 : (Cond.fieldLink RX0 28 "Grievancehall$Act" "measure" "I").before args s = true := hts _ (by decide +kernel)
  have f31 : (Cond.fieldLink RX0 31 "Grievancehall$Act" "harm" "I").before args s = true := hts _ (by decide +kernel)
  refine gd_lveq (lv' := [(0, .ref (a (13 + i))), (1, zz_v w), (2, zz_v kn), (3, zz_v d), (4, zz_v ms), (5, zz_v hm)]) rfl ?_
  obtain ⟨h1a, h1b⟩ := id h1
  obtain ⟨h2a, h2b⟩ := id h2
  obtain ⟨h3a, h3b⟩ := id h3
  obtain ⟨h4a, h4b⟩ := id h4
  obtain ⟨h5a, h5b⟩ := id h5
  refine gd_aload_n hC dX0_begin_0 rfl (j := 0) rfl ?_
  refine gd_iload_n hC dX0_begin_1 rfl (j := 1) rfl ?_
  refine gd_put hC w0 tyX0 tyX0_ok nmX0 hK (ci := 0) (zz_act (by omega)) (by omega) rfl 0 (by decide) rfl f19 rfl rfl (ty := .int) (by decide +kernel) rfl rfl ⟨by omega, by omega⟩ dX0_begin_2 ?_
  refine gd_aload_n hC dX0_begin_5 rfl (j := 0) rfl ?_
  refine gd_iload_n hC dX0_begin_6 rfl (j := 2) rfl ?_
  refine gd_put hC w0 tyX0 tyX0_ok nmX0 hK (ci := 0) (zz_act (by omega)) (by omega) rfl 1 (by decide) rfl f22 rfl rfl (ty := .int) (by decide +kernel) rfl rfl ⟨by omega, by omega⟩ dX0_begin_7 ?_
  refine gd_aload_n hC dX0_begin_10 rfl (j := 0) rfl ?_
  refine gd_iload_n hC dX0_begin_11 rfl (j := 3) rfl ?_
  refine gd_put hC w0 tyX0 tyX0_ok nmX0 hK (ci := 0) (zz_act (by omega)) (by omega) rfl 2 (by decide) rfl f25 rfl rfl (ty := .int) (by decide +kernel) rfl rfl ⟨by omega, by omega⟩ dX0_begin_12 ?_
  refine gd_aload_n hC dX0_begin_15 rfl (j := 0) rfl ?_
  refine gd_iload hC dX0_begin_16 (j := 4) rfl ?_
  refine gd_put hC w0 tyX0 tyX0_ok nmX0 hK (ci := 0) (zz_act (by omega)) (by omega) rfl 3 (by decide) rfl f28 rfl rfl (ty := .int) (by decide +kernel) rfl rfl ⟨by omega, by omega⟩ dX0_begin_18 ?_
  refine gd_aload_n hC dX0_begin_21 rfl (j := 0) rfl ?_
  refine gd_iload hC dX0_begin_22 (j := 5) rfl ?_
  refine gd_put hC w0 tyX0 tyX0_ok nmX0 hK (ci := 0) (zz_act (by omega)) (by omega) rfl 4 (by decide) rfl f31 rfl rfl (ty := .int) (by decide +kernel) rfl rfl ⟨by omega, by omega⟩ dX0_begin_24 ?_
  exact gd_return hC hr hlk dX0_begin_27 (by decide) ⟨rfl, (by first | rfl | ((repeat' split) <;> first | rfl | omega)), trivial⟩

abbrev rm_X0_barOn : Room := { frames := 0, cells := 0, slots := 0, locals := 0 }
set_option maxHeartbeats 4000000 in
set_option maxRecDepth 100000 in
theorem c_X0_barOn (l : Launch) (hl9 : l.stackTraces = false) (N0 : Nat) (G : zz_G) (Y : zz_Y) (a : Nat → Nat) (S : zz_S) (i : Nat) (x now : Int) (pn : Nat) (hx : x = (pn : Int)) (hp2 : pn < 10) (hi2 : i < 24) (hnow : 0 ≤ now ∧ now ≤ 5000) (hpl : -1 ≤ S (37 + i) pn ∧ S (37 + i) pn ≤ 5000) (hdy : 0 ≤ S (13 + i) 2 ∧ S (13 + i) 2 ≤ 5000) : CtR l yX0_barOn wsX0_barOn rm_X0_barOn 0 [.ref (a (13 + i)), zz_v x, zz_v now] N0 G Y a S (zz_ba S i pn now) (S) (0 ≤ zz_ba S i pn now ∧ zz_ba S i pn now ≤ 3) (False) (False) (False) := by
  refine Ct_.of (cc := cX0_barOn) (maxL := 3) (ret := (some .int)) (by decide) rfl (Nat.le_of_ble_eq_true rfl) ?_
  intro p e s m args below meth c hC hts hr hlk hex hF
  have hK := hF.2.1
  have w0 : ∀ w ∈ u_ws RX0 TX0 9, w.before args s = true := fun w h => hts w (List.mem_cons_of_mem _ (List.mem_append_right _ h))
  have f9 : (Cond.fieldLink RX0 9 "Grievancehall$Act" "pleaDays" "[I").before args s = true := hts _ (by decide +kernel)
  have f25 : (Cond.fieldLink RX0 25 "Grievancehall$Act" "day" "I").before args s = true := hts _ (by decide +kernel)
  have f34 : (Cond.fieldLink RX0 34 "Grievancehall$Act" "inCourt" "Z").before args s = true := hts _ (by decide +kernel)
  have f38 : (Cond.fieldLink RX0 38 "Grievancehall$Act" "timeWaived" "Z").before args s = true := hts _ (by decide +kernel)
  refine gd_lveq (lv' := [(0, .ref (a (13 + i))), (1, zz_v x), (2, zz_v now)]) rfl ?_
  refine gd_aload_n hC dX0_barOn_0 rfl (j := 0) rfl ?_
  refine gd_getR hC w0 hK (ci := 0) (zz_act (by omega)) (by omega) rfl 8 (by decide) (j := 37 + i) rfl f9 rfl dX0_barOn_1 ?_
  refine gd_iload_n hC dX0_barOn_4 rfl (j := 1) rfl ?_
  refine gd_iald hC hK (j := pn) (zz_plea (by omega)) (by omega) hx (by omega) (by decide) dX0_barOn_5 (fun r1 => ?_)
  obtain ⟨r1a, r1b⟩ := id r1
  refine gd_iconst hC dX0_barOn_6 ?_
  refine gd_icmp_eq hC dX0_barOn_7 (tgt := 23) (by decide) ⟨by omega, by omega⟩ ⟨by decide, by decide⟩ (fun c2 => ?_) (fun c2 => ?_)
  · skip
    refine gd_iconst hC dX0_barOn_23 ?_
    exact gd_ireturn hC hr rfl hlk dX0_barOn_24 (by decide) ⟨_, ⟨by decide, by decide⟩, rfl, (by first | rfl | ((repeat' split) <;> first | rfl | omega)), (by unfold zz_ba; omega), (by unfold zz_ba; omega)⟩
  · skip
    refine gd_iload_n hC dX0_barOn_10 rfl (j := 2) rfl ?_
    refine gd_aload_n hC dX0_barOn_11 rfl (j := 0) rfl ?_
    refine gd_getR hC w0 hK (ci := 0) (zz_act (by omega)) (by omega) rfl 8 (by decide) (j := 37 + i) rfl f9 rfl dX0_barOn_12 ?_
    refine gd_iload_n hC dX0_barOn_15 rfl (j := 1) rfl ?_
    refine gd_iald hC hK (j := pn) (zz_plea (by omega)) (by omega) hx (by omega) (by decide) dX0_barOn_16 (fun r3 => ?_)
    obtain ⟨r3a, r3b⟩ := id r3
    refine gd_isub hC dX0_barOn_17 ?_
    refine gd_bipush hC dX0_barOn_18 rfl ?_
    refine gd_icmp_ge hC dX0_barOn_20 (tgt := 25) (by decide) ⟨by omega, by omega⟩ ⟨by decide, by decide⟩ (fun c4 => ?_) (fun c4 => ?_)
    · skip
      refine gd_aload_n hC dX0_barOn_25 rfl (j := 0) rfl ?_
      refine gd_getI hC w0 hK (ci := 0) (zz_act (by omega)) (by omega) rfl 5 (by decide) rfl f34 rfl dX0_barOn_26 (fun r5 => ?_)
      obtain ⟨r5a, r5b⟩ := id r5
      refine gd_if_eq hC dX0_barOn_29 (tgt := 34) (by decide) ⟨by omega, by omega⟩ (fun c6 => ?_) (fun c6 => ?_)
      · skip
        refine gd_iload_n hC dX0_barOn_34 rfl (j := 2) rfl ?_
        refine gd_aload_n hC dX0_barOn_35 rfl (j := 0) rfl ?_
        refine gd_getI hC w0 hK (ci := 0) (zz_act (by omega)) (by omega) rfl 2 (by decide) rfl f25 rfl dX0_barOn_36 (fun r7 => ?_)
        obtain ⟨r7a, r7b⟩ := id r7
        refine gd_isub hC dX0_barOn_39 ?_
        refine gd_sipush hC dX0_barOn_40 rfl ?_
        refine gd_icmp_le hC dX0_barOn_43 (tgt := 55) (by decide) ⟨by omega, by omega⟩ ⟨by decide, by decide⟩ (fun c8 => ?_) (fun c8 => ?_)
        · skip
          refine gd_iconst hC dX0_barOn_55 ?_
          exact gd_ireturn hC hr rfl hlk dX0_barOn_56 (by decide) ⟨_, ⟨by decide, by decide⟩, rfl, (by first | rfl | ((repeat' split) <;> first | rfl | omega)), (by unfold zz_ba; omega), (by unfold zz_ba; omega)⟩
        · skip
          refine gd_aload_n hC dX0_barOn_46 rfl (j := 0) rfl ?_
          refine gd_getI hC w0 hK (ci := 0) (zz_act (by omega)) (by omega) rfl 6 (by decide) rfl f38 rfl dX0_barOn_47 (fun r9 => ?_)
          obtain ⟨r9a, r9b⟩ := id r9
          refine gd_if_ne hC dX0_barOn_50 (tgt := 55) (by decide) ⟨by omega, by omega⟩ (fun c10 => ?_) (fun c10 => ?_)
          · skip
            refine gd_iconst hC dX0_barOn_55 ?_
            exact gd_ireturn hC hr rfl hlk dX0_barOn_56 (by decide) ⟨_, ⟨by decide, by decide⟩, rfl, (by first | rfl | ((repeat' split) <;> first | rfl | omega)), (by unfold zz_ba; omega), (by unfold zz_ba; omega)⟩
          · skip
            refine gd_iconst hC dX0_barOn_53 ?_
            exact gd_ireturn hC hr rfl hlk dX0_barOn_54 (by decide) ⟨_, ⟨by decide, by decide⟩, rfl, (by first | rfl | ((repeat' split) <;> first | rfl | omega)), (by unfold zz_ba; omega), (by unfold zz_ba; omega)⟩
      · skip
        refine gd_iconst hC dX0_barOn_32 ?_
        exact gd_ireturn hC hr rfl hlk dX0_barOn_33 (by decide) ⟨_, ⟨by decide, by decide⟩, rfl, (by first | rfl | ((repeat' split) <;> first | rfl | omega)), (by unfold zz_ba; omega), (by unfold zz_ba; omega)⟩
    · skip
      refine gd_iconst hC dX0_barOn_23 ?_
      exact gd_ireturn hC hr rfl hlk dX0_barOn_24 (by decide) ⟨_, ⟨by decide, by decide⟩, rfl, (by first | rfl | ((repeat' split) <;> first | rfl | omega)), (by unfold zz_ba; omega), (by unfold zz_ba; omega)⟩

abbrev rm_X0_giveRemedy : Room := { frames := 0, cells := 0, slots := 0, locals := 0 }
set_option maxHeartbeats 4000000 in
set_option maxRecDepth 100000 in
theorem c_X0_giveRemedy (l : Launch) (hl9 : l.stackTraces = false) (N0 : Nat) (G : zz_G) (Y : zz_Y) (a : Nat → Nat) (S : zz_S) (i : Nat) (x : Int) (hi2 : i < 24) (hx : 0 ≤ x ∧ x ≤ 100) (hh : 0 ≤ S (13 + i) 4 ∧ S (13 + i) 4 ≤ 1000) : CtN l yX0_giveRemedy wsX0_giveRemedy rm_X0_giveRemedy 0 [.ref (a (13 + i)), zz_v x] N0 G Y a S (zz_u (S) (13 + i) (7) ((S (13 + i) 4 * x) / 100)) (True) (False) (False) (False) := by
  refine Ct_.of (cc := cX0_giveRemedy) (maxL := 2) (ret := none) (by decide) rfl (Nat.le_of_ble_eq_true rfl) ?_
  intro p e s m args below meth c hC hts hr hlk hex hF
  have hK := hF.2.1
  have w0 : ∀ w ∈ u_ws RX0 TX0 9, w.before args s = true := fun w h => hts w (List.mem_cons_of_mem _ (List.mem_append_right _ h))
  have f15 : (Cond.fieldLink RX0 15 "Grievancehall$Act" "remedySum" "I").before args s = true := hts _ (by decide +kernel)
  have f31 : (Cond.fieldLink RX0 31 "Grievancehall$Act" "harm" "I").before args s = true := hts _ (by decide +kernel)
  refine gd_lveq (lv' := [(0, .ref (a (13 + i))), (1, zz_v x)]) rfl ?_
  have hmu := zz_mulb hh hx
  refine gd_aload_n hC dX0_giveRemedy_0 rfl (j := 0) rfl ?_
  refine gd_aload_n hC dX0_giveRemedy_1 rfl (j := 0) rfl ?_
  refine gd_getI hC w0 hK (ci := 0) (zz_act (by omega)) (by omega) rfl 4 (by decide) rfl f31 rfl dX0_giveRemedy_2 (fun r1 => ?_)
  obtain ⟨r1a, r1b⟩ := id r1
  refine gd_iload_n hC dX0_giveRemedy_5 rfl (j := 1) rfl ?_
  refine gd_imul hC dX0_giveRemedy_6 ?_
  refine gd_top (y := S (13 + i) 4 * x) (rfl) ?_
  refine gd_bipush hC dX0_giveRemedy_7 rfl ?_
  refine gd_idiv hC dX0_giveRemedy_9 ⟨by omega, by omega⟩ ⟨by omega, by omega⟩ ?_
  refine gd_put hC w0 tyX0 tyX0_ok nmX0 hK (ci := 0) (zz_act (by omega)) (by omega) rfl 7 (by decide) rfl f15 rfl rfl (ty := .int) (by decide +kernel) rfl rfl ⟨by omega, by omega⟩ dX0_giveRemedy_10 ?_
  exact gd_return hC hr hlk dX0_giveRemedy_13 (by decide) ⟨rfl, (by first | rfl | ((repeat' split) <;> first | rfl | omega)), trivial⟩

abbrev rm_X2_begin : Room := { frames := 0, cells := 0, slots := 0, locals := 0 }
set_option maxHeartbeats 4000000 in
set_option maxRecDepth 100000 in
theorem c_X2_begin (l : Launch) (hl9 : l.stackTraces = false) (N0 : Nat) (G : zz_G) (Y : zz_Y) (a : Nat → Nat) (S : zz_S) (j : Nat) (x : Int) (hj2 : j < 16) (hx : zz_R x) : CtN l yX2_begin wsX2_begin rm_X2_begin 0 [.ref (a (61 + j)), zz_v x] N0 G Y a S (zz_u (zz_u (zz_u (zz_u (zz_u (S) (61 + j) (0) (x)) (61 + j) (1) (0)) (61 + j) (2) (60)) (61 + j) (4) (0)) (61 + j) (7) (-1)) (True) (False) (False) (False) := by
  refine Ct_.of (cc := cX2_begin) (maxL := 2) (ret := none) (by decide) rfl (Nat.le_of_ble_eq_true rfl) ?_
  intro p e s m args below meth c hC hts hr hlk hex hF
  have hK := hF.2.1
  have w2 : ∀ w ∈ u_ws RX2 TX2 8, w.before args s = true := fun w h => hts w (List.mem_cons_of_mem _ (List.mem_append_right _ h))
  have f9 : (Cond.fieldLink RX2 9 "Grievancehall$Complaint" "actNumber" "I").before args s = true := hts _ (by decide +kernel)
  have f15 : (Cond.fieldLink RX2 15 "Grievancehall$Complaint" "state" "I").before args s = true := hts _ (by decide +kernel)
  have f18 : (Cond.fieldLink RX2 18 "Grievancehall$Complaint" "daysLeft" "I").before args s = true := hts _ (by decide +kernel)
  have f21 : (Cond.fieldLink RX2 21 "Grievancehall$Complaint" "file" "I").before args s = true := hts _ (by decide +kernel)
  have f24 : (Cond.fieldLink RX2 24 "Grievancehall$Complaint" "finding" "I").before args s = true := hts _ (by decide +kernel)
  refine gd_lveq (lv' := [(0, .ref (a (61 + j))), (1, zz_v x)]) rfl ?_
  obtain ⟨hx1, hx2⟩ := id hx
  refine gd_aload_n hC dX2_begin_0 rfl (j := 0) rfl ?_
  refine gd_iload_n hC dX2_begin_1 rfl (j := 1) rfl ?_
  refine gd_put hC w2 tyX2 tyX2_ok nmX2 hK (ci := 2) (zz_cmp (by omega)) (by omega) rfl 0 (by decide) rfl f9 rfl rfl (ty := .int) (by decide +kernel) rfl rfl ⟨by omega, by omega⟩ dX2_begin_2 ?_
  refine gd_aload_n hC dX2_begin_5 rfl (j := 0) rfl ?_
  refine gd_iconst hC dX2_begin_6 ?_
  refine gd_put hC w2 tyX2 tyX2_ok nmX2 hK (ci := 2) (zz_cmp (by omega)) (by omega) rfl 1 (by decide) rfl f15 rfl rfl (ty := .int) (by decide +kernel) rfl rfl ⟨by decide, by decide⟩ dX2_begin_7 ?_
  refine gd_aload_n hC dX2_begin_10 rfl (j := 0) rfl ?_
  refine gd_bipush hC dX2_begin_11 rfl ?_
  refine gd_put hC w2 tyX2 tyX2_ok nmX2 hK (ci := 2) (zz_cmp (by omega)) (by omega) rfl 2 (by decide) rfl f18 rfl rfl (ty := .int) (by decide +kernel) rfl rfl ⟨by decide, by decide⟩ dX2_begin_13 ?_
  refine gd_aload_n hC dX2_begin_16 rfl (j := 0) rfl ?_
  refine gd_iconst hC dX2_begin_17 ?_
  refine gd_put hC w2 tyX2 tyX2_ok nmX2 hK (ci := 2) (zz_cmp (by omega)) (by omega) rfl 4 (by decide) rfl f21 rfl rfl (ty := .int) (by decide +kernel) rfl rfl ⟨by decide, by decide⟩ dX2_begin_18 ?_
  refine gd_aload_n hC dX2_begin_21 rfl (j := 0) rfl ?_
  refine gd_iconst hC dX2_begin_22 ?_
  refine gd_put hC w2 tyX2 tyX2_ok nmX2 hK (ci := 2) (zz_cmp (by omega)) (by omega) rfl 7 (by decide) rfl f24 rfl rfl (ty := .int) (by decide +kernel) rfl rfl ⟨by decide, by decide⟩ dX2_begin_23 ?_
  exact gd_return hC hr hlk dX2_begin_26 (by decide) ⟨rfl, (by first | rfl | ((repeat' split) <;> first | rfl | omega)), trivial⟩

abbrev rm_X2_join : Room := { frames := 0, cells := 0, slots := 0, locals := 0 }
set_option maxHeartbeats 4000000 in
set_option maxRecDepth 100000 in
theorem c_X2_join (l : Launch) (hl9 : l.stackTraces = false) (N0 : Nat) (G : zz_G) (Y : zz_Y) (a : Nat → Nat) (S : zz_S) (j : Nat) (x : Int) (hj2 : j < 16) (hx : 0 ≤ x ∧ x < 10) (hp : 0 ≤ S (61 + j) 3 ∧ S (61 + j) 3 < 1024) : CtN l yX2_join wsX2_join rm_X2_join 0 [.ref (a (61 + j)), zz_v x] N0 G Y a S (zz_u (S) (61 + j) (3) (((S (61 + j) 3).toNat ||| 2 ^ x.toNat : Nat))) (True) (False) (False) (False) := by
  refine Ct_.of (cc := cX2_join) (maxL := 2) (ret := none) (by decide) rfl (Nat.le_of_ble_eq_true rfl) ?_
  intro p e s m args below meth c hC hts hr hlk hex hF
  have hK := hF.2.1
  have w2 : ∀ w ∈ u_ws RX2 TX2 8, w.before args s = true := fun w h => hts w (List.mem_cons_of_mem _ (List.mem_append_right _ h))
  have f27 : (Cond.fieldLink RX2 27 "Grievancehall$Complaint" "people" "I").before args s = true := hts _ (by decide +kernel)
  refine gd_lveq (lv' := [(0, .ref (a (61 + j))), (1, zz_v x)]) rfl ?_
  have h2p : (2 : Nat) ^ x.toNat < 2 ^ 10 := Nat.pow_lt_pow_right (by omega) (by omega)
  have hor : ((S (61 + j) 3).toNat ||| 2 ^ x.toNat : Nat) < 2 ^ 10 := Nat.or_lt_two_pow (by omega) h2p
  refine gd_aload_n hC dX2_join_0 rfl (j := 0) rfl ?_
  refine gd_dup hC dX2_join_1 rfl ?_
  refine gd_getI hC w2 hK (ci := 2) (zz_cmp (by omega)) (by omega) rfl 3 (by decide) rfl f27 rfl dX2_join_2 (fun r1 => ?_)
  obtain ⟨r1a, r1b⟩ := id r1
  refine gd_iconst hC dX2_join_5 ?_
  refine gd_iload_n hC dX2_join_6 rfl (j := 1) rfl ?_
  refine gd_ishl1 hC ⟨by omega, by omega⟩ dX2_join_7 ?_
  refine gd_ior hC ⟨by omega, by omega⟩ (zz_p2 ⟨by omega, by omega⟩) dX2_join_8 ?_
  refine gd_top (y := (((S (61 + j) 3).toNat ||| 2 ^ x.toNat : Nat) : Int)) rfl ?_
  refine gd_put hC w2 tyX2 tyX2_ok nmX2 hK (ci := 2) (zz_cmp (by omega)) (by omega) rfl 3 (by decide) rfl f27 rfl rfl (ty := .int) (by decide +kernel) rfl rfl ⟨by omega, by omega⟩ dX2_join_9 ?_
  exact gd_return hC hr hlk dX2_join_12 (by decide) ⟨rfl, (by first | rfl | ((repeat' split) <;> first | rfl | omega)), trivial⟩

abbrev rm_X2_letDaysGoBy : Room := { frames := 1, cells := 0, slots := 0, locals := 14 }
set_option maxHeartbeats 4000000 in
set_option maxRecDepth 100000 in
theorem c_X2_letDaysGoBy (l : Launch) (hl9 : l.stackTraces = false) (N0 : Nat) (G : zz_G) (Y : zz_Y) (a : Nat → Nat) (S : zz_S) (j : Nat) (x : Int) (hj2 : j < 16) (hx : 1 ≤ x ∧ x ≤ 100) (hl : 0 ≤ S (61 + j) 2 ∧ S (61 + j) 2 ≤ 60) : CtN l yX2_letDaysGoBy wsX2_letDaysGoBy rm_X2_letDaysGoBy 0 [.ref (a (61 + j)), zz_v x] N0 G Y a S (zz_ld S j x) (True) (False) (False) (False) := by
  refine Ct_.of (cc := cX2_letDaysGoBy) (maxL := 2) (ret := none) (by decide) rfl (Nat.le_of_ble_eq_true rfl) ?_
  intro p e s m args below meth c hC hts hr hlk hex hF
  have hK := hF.2.1
  have w2 : ∀ w ∈ u_ws RX2 TX2 8, w.before args s = true := fun w h => hts w (List.mem_cons_of_mem _ (List.mem_append_right _ h))
  have f15 : (Cond.fieldLink RX2 15 "Grievancehall$Complaint" "state" "I").before args s = true := hts _ (by decide +kernel)
  have f18 : (Cond.fieldLink RX2 18 "Grievancehall$Complaint" "daysLeft" "I").before args s = true := hts _ (by decide +kernel)
  have f21 : (Cond.fieldLink RX2 21 "Grievancehall$Complaint" "file" "I").before args s = true := hts _ (by decide +kernel)
  refine gd_lveq (lv' := [(0, .ref (a (61 + j))), (1, zz_v x)]) rfl ?_
  refine gd_aload_n hC dX2_letDaysGoBy_0 rfl (j := 0) rfl ?_
  refine gd_getI hC w2 hK (ci := 2) (zz_cmp (by omega)) (by omega) rfl 1 (by decide) rfl f15 rfl dX2_letDaysGoBy_1 (fun r1 => ?_)
  obtain ⟨r1a, r1b⟩ := id r1
  refine gd_if_ne hC dX2_letDaysGoBy_4 (tgt := 15) (by decide) ⟨by omega, by omega⟩ (fun c2 => ?_) (fun c2 => ?_)
  · skip
    exact gd_return hC hr hlk dX2_letDaysGoBy_15 (by decide) ⟨rfl, (by unfold zz_ld; rw [if_pos (by omega)]), trivial⟩
  · skip
    refine gd_aload_n hC dX2_letDaysGoBy_7 rfl (j := 0) rfl ?_
    refine gd_getI hC w2 hK (ci := 2) (zz_cmp (by omega)) (by omega) rfl 4 (by decide) rfl f21 rfl dX2_letDaysGoBy_8 (fun r3 => ?_)
    obtain ⟨r3a, r3b⟩ := id r3
    refine gd_iconst hC dX2_letDaysGoBy_11 ?_
    refine gd_icmp_ne hC dX2_letDaysGoBy_12 (tgt := 16) (by decide) ⟨by omega, by omega⟩ ⟨by decide, by decide⟩ (fun c4 => ?_) (fun c4 => ?_)
    · skip
      refine gd_aload_n hC dX2_letDaysGoBy_16 rfl (j := 0) rfl ?_
      refine gd_iconst hC dX2_letDaysGoBy_17 ?_
      refine gd_aload_n hC dX2_letDaysGoBy_18 rfl (j := 0) rfl ?_
      refine gd_getI hC w2 hK (ci := 2) (zz_cmp (by omega)) (by omega) rfl 2 (by decide) rfl f18 rfl dX2_letDaysGoBy_19 (fun r5 => ?_)
      obtain ⟨r5a, r5b⟩ := id r5
      refine gd_iload_n hC dX2_letDaysGoBy_22 rfl (j := 1) rfl ?_
      refine gd_isub hC dX2_letDaysGoBy_23 ?_
      refine gd_max hC (hts _ (by decide +kernel)) (hts _ (by decide +kernel)) (hts _ (by decide +kernel)) (hts _ (by decide +kernel)) (by decide) (Nat.le_of_ble_eq_true rfl) (by decide) (by decide) ⟨by decide, by decide⟩ ⟨by omega, by omega⟩ dX2_letDaysGoBy_24 ?_
      refine gd_put hC w2 tyX2 tyX2_ok nmX2 hK (ci := 2) (zz_cmp (by omega)) (by omega) rfl 2 (by decide) rfl f18 rfl rfl (ty := .int) (by decide +kernel) rfl rfl ⟨by omega, by omega⟩ dX2_letDaysGoBy_27 ?_
      refine gd_aload_n hC dX2_letDaysGoBy_30 rfl (j := 0) rfl ?_
      refine gd_getI hC w2 hK (ci := 2) (zz_cmp (by omega)) (by omega) rfl 2 (by decide) rfl f18 rfl dX2_letDaysGoBy_31 (fun r6 => ?_)
      obtain ⟨r6a, r6b⟩ := id r6
      refine gd_top (y := (if 0 < ((S (61 + j) 2) - x) then ((S (61 + j) 2) - x) else 0)) (zz_u_same _ _ _ _) ?_
      rw [(zz_u_same _ _ _ _ : (zz_u (S) (61 + j) (2) ((if 0 < ((S (61 + j) 2) - x) then ((S (61 + j) 2) - x) else 0))) (61 + j) (2) = (if 0 < ((S (61 + j) 2) - x) then ((S (61 + j) 2) - x) else 0))] at r6a r6b
      refine gd_if_ne hC dX2_letDaysGoBy_34 (tgt := 42) (by decide) ⟨by omega, by omega⟩ (fun c7 => ?_) (fun c7 => ?_)
      · skip
        exact gd_return hC hr hlk dX2_letDaysGoBy_42 (by decide) ⟨rfl, (by unfold zz_ld; rw [if_neg (show ¬ (¬ S (61 + j) 1 = 0 ∨ S (61 + j) 4 = 1) by omega)]; first | (rw [if_pos (show (if 0 < S (61 + j) 2 - x then S (61 + j) 2 - x else 0) = 0 by omega)]) | (rw [if_neg (show ¬ (if 0 < S (61 + j) 2 - x then S (61 + j) 2 - x else 0) = 0 by omega)])), trivial⟩
      · skip
        refine gd_aload_n hC dX2_letDaysGoBy_37 rfl (j := 0) rfl ?_
        refine gd_iconst hC dX2_letDaysGoBy_38 ?_
        refine gd_put hC w2 tyX2 tyX2_ok nmX2 hK (ci := 2) (zz_cmp (by omega)) (by omega) rfl 1 (by decide) rfl f15 rfl rfl (ty := .int) (by decide +kernel) rfl rfl ⟨by decide, by decide⟩ dX2_letDaysGoBy_39 ?_
        exact gd_return hC hr hlk dX2_letDaysGoBy_42 (by decide) ⟨rfl, (by unfold zz_ld; rw [if_neg (show ¬ (¬ S (61 + j) 1 = 0 ∨ S (61 + j) 4 = 1) by omega)]; first | (rw [if_pos (show (if 0 < S (61 + j) 2 - x then S (61 + j) 2 - x else 0) = 0 by omega)]) | (rw [if_neg (show ¬ (if 0 < S (61 + j) 2 - x then S (61 + j) 2 - x else 0) = 0 by omega)])), trivial⟩
    · skip
      exact gd_return hC hr hlk dX2_letDaysGoBy_15 (by decide) ⟨rfl, (by unfold zz_ld; rw [if_pos (by omega)]), trivial⟩

abbrev rm_X3_complaintToJoin : Room := { frames := 0, cells := 0, slots := 0, locals := 0 }
set_option maxHeartbeats 4000000 in
set_option maxRecDepth 100000 in
theorem c_X3_complaintToJoin (l : Launch) (hl9 : l.stackTraces = false) (N0 : Nat) (G : zz_G) (Y : zz_Y) (a : Nat → Nat) (S : zz_S) (x : Int) (hx : zz_R x) (hn : 0 ≤ S 0 9 ∧ S 0 9 ≤ 16) : CtR l yX3_complaintToJoin wsX3_complaintToJoin rm_X3_complaintToJoin 0 [.ref (a 0), zz_v x] N0 G Y a S (zz_cj S x (S 0 9).toNat 0) (S) (-1 ≤ zz_cj S x (S 0 9).toNat 0 ∧ zz_cj S x (S 0 9).toNat 0 < S 0 9) (False) (False) (False) := by
  refine Ct_.of (cc := cX3_complaintToJoin) (maxL := 3) (ret := (some .int)) (by decide) rfl (Nat.le_of_ble_eq_true rfl) ?_
  intro p e s m args below meth c hC hts hr hlk hex hF
  have hK := hF.2.1
  have w2 : ∀ w ∈ u_ws RX2 TX2 8, w.before args s = true := fun w h => hts w (List.mem_cons_of_mem _ (List.mem_append_right _ h))
  have w3 : ∀ w ∈ u_ws RX3 TX3 11, w.before args s = true := fun w h => hts w (List.mem_cons_of_mem _ (List.mem_append_left _ (List.mem_append_right _ h)))
  have f36 : (Cond.fieldLink RX3 36 "Grievancehall" "complaints" "[LGrievancehall$Complaint;").before args s = true := hts _ (by decide +kernel)
  have f127 : (Cond.fieldLink RX3 127 "Grievancehall" "complaintCount" "I").before args s = true := hts _ (by decide +kernel)
  have f130 : (Cond.fieldLink RX3 130 "Grievancehall$Complaint" "state" "I").before args s = true := hts _ (by decide +kernel)
  have f141 : (Cond.fieldLink RX3 141 "Grievancehall$Complaint" "actNumber" "I").before args s = true := hts _ (by decide +kernel)
  refine gd_lveq (lv' := [(0, .ref (a 0)), (1, zz_v x)]) rfl ?_
  obtain ⟨hx1, hx2⟩ := id hx
  have hrg := zz_cj_rng (S := S) (x := x) (S 0 9).toNat 0
  refine gd_iconst hC dX3_complaintToJoin_0 ?_
  refine gd_istore_n hC dX3_complaintToJoin_1 rfl (by decide) (lv' := [(2, zz_v 0), (0, .ref (a 0)), (1, zz_v x)]) rfl ?_
  refine gd_sub [1, 2, 0] (lv' := [(0, .ref (a 0)), (1, zz_v x), (2, zz_v 0)]) rfl ?_
  refine gd_loop (σ := Nat) (μ := fun vz => (S 0 9).toNat - vz) (I := fun vz => (vz ≤ (S 0 9).toNat) ∧ (zz_cj S x (S 0 9).toNat 0 = zz_cj S x ((S 0 9).toNat - vz) vz)) (Sf := fun vz => S) (lf := fun vz => [(0, .ref (a 0)), (1, zz_v x), (2, zz_v (vz : Int))]) 0 (⟨by omega, rfl⟩) rfl rfl (fun j hI ih2 => ?_)
  obtain ⟨hI0, hI1⟩ : (j ≤ (S 0 9).toNat) ∧ (zz_cj S x (S 0 9).toNat 0 = zz_cj S x ((S 0 9).toNat - j) j) := hI
  refine gd_lveq (lv' := [(0, .ref (a 0)), (1, zz_v x), (2, zz_v (j : Int))]) rfl ?_
  refine gd_eq (S' := S) rfl ?_
  refine gd_iload_n hC dX3_complaintToJoin_2 rfl (j := 2) rfl ?_
  refine gd_aload_n hC dX3_complaintToJoin_3 rfl (j := 0) rfl ?_
  refine gd_getI hC w3 hK (ci := 3) rfl (by decide) rfl 9 (by decide) rfl f127 rfl dX3_complaintToJoin_4 (fun r1 => ?_)
  obtain ⟨r1a, r1b⟩ := id r1
  refine gd_icmp_ge hC dX3_complaintToJoin_7 (tgt := 44) (by decide) ⟨by omega, by omega⟩ ⟨by omega, by omega⟩ (fun c2 => ?_) (fun c2 => ?_)
  · skip
    refine gd_iconst hC dX3_complaintToJoin_44 ?_
    exact gd_ireturn hC hr rfl hlk dX3_complaintToJoin_45 (by decide) ⟨_, ⟨by decide, by decide⟩, rfl, (by first | rfl | ((repeat' split) <;> first | rfl | omega)), (by rw [hI1, show (S 0 9).toNat - j = 0 by omega]; rfl), (by omega)⟩
  · skip
    refine gd_aload_n hC dX3_complaintToJoin_10 rfl (j := 0) rfl ?_
    refine gd_getR hC w3 hK (ci := 3) rfl (by decide) rfl 8 (by decide) (j := 12) rfl f36 rfl dX3_complaintToJoin_11 ?_
    refine gd_iload_n hC dX3_complaintToJoin_14 rfl (j := 2) rfl ?_
    refine gd_aald hC hK (t := 3) (Cn := RX2) (j := j) (q := 61 + j) rfl (by decide) rfl rfl (by omega) (by decide) rfl dX3_complaintToJoin_15 ?_
    refine gd_getI hC w2 hK (ci := 2) (zz_cmp (by omega)) (by omega) rfl 0 (by decide) rfl f141 rfl dX3_complaintToJoin_16 (fun r3 => ?_)
    obtain ⟨r3a, r3b⟩ := id r3
    refine gd_iload_n hC dX3_complaintToJoin_19 rfl (j := 1) rfl ?_
    refine gd_icmp_ne hC dX3_complaintToJoin_20 (tgt := 38) (by decide) ⟨by omega, by omega⟩ ⟨by omega, by omega⟩ (fun c4 => ?_) (fun c4 => ?_)
    · skip
      refine gd_iinc hC dX3_complaintToJoin_38 (j := 2) rfl (y := ((j + 1 : Nat) : Int)) (by omega) (by decide) (lv' := [(2, zz_v ((j + 1 : Nat) : Int)), (0, .ref (a 0)), (1, zz_v x)]) rfl ?_
      refine gd_goto hC dX3_complaintToJoin_41 (tgt := 2) (by decide) ?_
      refine gd_sub [1, 2, 0] (lv' := [(0, .ref (a 0)), (1, zz_v x), (2, zz_v ((j + 1 : Nat) : Int))]) rfl ?_
      refine gd_lveq (lv' := [(0, .ref (a 0)), (1, zz_v x), (2, zz_v (((j + 1) : Nat) : Int))]) rfl ?_
      exact ih2 (j + 1) ⟨by omega, by rw [hI1]; obtain ⟨q, hq⟩ : ∃ q, (S 0 9).toNat - j = q + 1 := ⟨(S 0 9).toNat - j - 1, by omega⟩; rw [hq, zz_cj, if_neg (by omega), show (S 0 9).toNat - (j + 1) = q by omega]⟩ (show (S 0 9).toNat - (j + 1) < (S 0 9).toNat - j by omega)
    · skip
      refine gd_aload_n hC dX3_complaintToJoin_23 rfl (j := 0) rfl ?_
      refine gd_getR hC w3 hK (ci := 3) rfl (by decide) rfl 8 (by decide) (j := 12) rfl f36 rfl dX3_complaintToJoin_24 ?_
      refine gd_iload_n hC dX3_complaintToJoin_27 rfl (j := 2) rfl ?_
      refine gd_aald hC hK (t := 3) (Cn := RX2) (j := j) (q := 61 + j) rfl (by decide) rfl rfl (by omega) (by decide) rfl dX3_complaintToJoin_28 ?_
      refine gd_getI hC w2 hK (ci := 2) (zz_cmp (by omega)) (by omega) rfl 1 (by decide) rfl f130 rfl dX3_complaintToJoin_29 (fun r5 => ?_)
      obtain ⟨r5a, r5b⟩ := id r5
      refine gd_iconst hC dX3_complaintToJoin_32 ?_
      refine gd_icmp_eq hC dX3_complaintToJoin_33 (tgt := 38) (by decide) ⟨by omega, by omega⟩ ⟨by decide, by decide⟩ (fun c6 => ?_) (fun c6 => ?_)
      · skip
        refine gd_iinc hC dX3_complaintToJoin_38 (j := 2) rfl (y := ((j + 1 : Nat) : Int)) (by omega) (by decide) (lv' := [(2, zz_v ((j + 1 : Nat) : Int)), (0, .ref (a 0)), (1, zz_v x)]) rfl ?_
        refine gd_goto hC dX3_complaintToJoin_41 (tgt := 2) (by decide) ?_
        refine gd_sub [1, 2, 0] (lv' := [(0, .ref (a 0)), (1, zz_v x), (2, zz_v ((j + 1 : Nat) : Int))]) rfl ?_
        refine gd_lveq (lv' := [(0, .ref (a 0)), (1, zz_v x), (2, zz_v (((j + 1) : Nat) : Int))]) rfl ?_
        exact ih2 (j + 1) ⟨by omega, by rw [hI1]; obtain ⟨q, hq⟩ : ∃ q, (S 0 9).toNat - j = q + 1 := ⟨(S 0 9).toNat - j - 1, by omega⟩; rw [hq, zz_cj, if_neg (by omega), show (S 0 9).toNat - (j + 1) = q by omega]⟩ (show (S 0 9).toNat - (j + 1) < (S 0 9).toNat - j by omega)
      · skip
        refine gd_iload_n hC dX3_complaintToJoin_36 rfl (j := 2) rfl ?_
        exact gd_ireturn hC hr rfl hlk dX3_complaintToJoin_37 (by decide) ⟨_, ⟨by omega, by omega⟩, rfl, (by first | rfl | ((repeat' split) <;> first | rfl | omega)), (by rw [hI1]; obtain ⟨q, hq⟩ : ∃ q, (S 0 9).toNat - j = q + 1 := ⟨(S 0 9).toNat - j - 1, by omega⟩; rw [hq, zz_cj, if_pos (by omega)]), (by omega)⟩
