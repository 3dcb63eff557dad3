abbrev rm_X3_needNumber : Room := { frames := 6, cells := 1, slots := 6, locals := 82 }
set_option maxHeartbeats 4000000 in
set_option maxRecDepth 100000 in
theorem c_X3_needNumber (l : Launch) (hl9 : l.stackTraces = false) (N0 : Nat) (G : zz_G) (Y : zz_Y) (a : Nat → Nat) (S : zz_S) (x n : Int) (hx : zz_R x) (hn : zz_R n) : CtN l yX3_needNumber wsX3_needNumber rm_X3_needNumber 1 [zz_v x, zz_v n] N0 G Y a S (S) (0 ≤ x ∧ x < n) (x < 0 ∨ n ≤ x) (False) (False) := by
  refine Ct_.of (cc := cX3_needNumber) (maxL := 2) (ret := none) (by decide) rfl (Nat.le_of_ble_eq_true rfl) ?_
  intro p e s m args below meth c hC hts hr hlk hex hF
  have hK := hF.2.1
  have t1 : ∀ w ∈ (vx_atS RX3 210 "java/lang/IndexOutOfBoundsException" ["java/lang/RuntimeException", "java/lang/Exception"]).filter goodWord, w.before args s = true := fun w h => hts w (List.mem_cons_of_mem _ (List.mem_append_right _ h))
  refine gd_lveq (lv' := [(0, zz_v x), (1, zz_v n)]) rfl ?_
  obtain ⟨hx1, hx2⟩ := id hx
  obtain ⟨hn1, hn2⟩ := id hn
  refine gd_iload_n hC dX3_needNumber_0 rfl (j := 0) rfl ?_
  refine gd_if_lt hC dX3_needNumber_1 (tgt := 9) (by decide) ⟨by omega, by omega⟩ (fun c1 => ?_) (fun c1 => ?_)
  · skip
    exact gd_throw1 (text := "there is none of that number") hC hl9 hF (hts _ (by decide +kernel)) (hts _ (by decide +kernel)) (by decide +kernel) t1 dX3_needNumber_9 dX3_needNumber_12 dX3_needNumber_13 dX3_needNumber_15 dX3_needNumber_18 hex (by decide) (by decide) (by decide) (by decide) hlk rfl (by omega) (by decide)
  · skip
    refine gd_iload_n hC dX3_needNumber_4 rfl (j := 0) rfl ?_
    refine gd_iload_n hC dX3_needNumber_5 rfl (j := 1) rfl ?_
    refine gd_icmp_lt hC dX3_needNumber_6 (tgt := 19) (by decide) ⟨by omega, by omega⟩ ⟨by omega, by omega⟩ (fun c2 => ?_) (fun c2 => ?_)
    · skip
      exact gd_return hC hr hlk dX3_needNumber_19 (by decide) ⟨rfl, (by first | rfl | ((repeat' split) <;> first | rfl | omega)), (by omega)⟩
    · skip
      exact gd_throw1 (text := "there is none of that number") hC hl9 hF (hts _ (by decide +kernel)) (hts _ (by decide +kernel)) (by decide +kernel) t1 dX3_needNumber_9 dX3_needNumber_12 dX3_needNumber_13 dX3_needNumber_15 dX3_needNumber_18 hex (by decide) (by decide) (by decide) (by decide) hlk rfl (by omega) (by decide)

abbrev rm_X3_needRange : Room := { frames := 6, cells := 1, slots := 6, locals := 82 }
set_option maxHeartbeats 4000000 in
set_option maxRecDepth 100000 in
theorem c_X3_needRange (l : Launch) (hl9 : l.stackTraces = false) (N0 : Nat) (G : zz_G) (Y : zz_Y) (a : Nat → Nat) (S : zz_S) (x lo hi : Int) (hx : zz_R x) (hlo : zz_R lo) (hhi : zz_R hi) : CtN l yX3_needRange wsX3_needRange rm_X3_needRange 1 [zz_v x, zz_v lo, zz_v hi] N0 G Y a S (S) (lo ≤ x ∧ x ≤ hi) (False) (x < lo ∨ hi < x) (False) := by
  refine Ct_.of (cc := cX3_needRange) (maxL := 3) (ret := none) (by decide) rfl (Nat.le_of_ble_eq_true rfl) ?_
  intro p e s m args below meth c hC hts hr hlk hex hF
  have hK := hF.2.1
  have t2 : ∀ w ∈ (vx_atS RX3 45 "java/lang/IllegalArgumentException" ["java/lang/RuntimeException", "java/lang/Exception"]).filter goodWord, w.before args s = true := fun w h => hts w (List.mem_cons_of_mem _ (List.mem_append_right _ h))
  refine gd_lveq (lv' := [(0, zz_v x), (1, zz_v lo), (2, zz_v hi)]) rfl ?_
  obtain ⟨hx1, hx2⟩ := id hx
  obtain ⟨hn1, hn2⟩ := id hlo
  obtain ⟨hn3, hn4⟩ := id hhi
  refine gd_iload_n hC dX3_needRange_0 rfl (j := 0) rfl ?_
  refine gd_iload_n hC dX3_needRange_1 rfl (j := 1) rfl ?_
  refine gd_icmp_lt hC dX3_needRange_2 (tgt := 10) (by decide) ⟨by omega, by omega⟩ ⟨by omega, by omega⟩ (fun c1 => ?_) (fun c1 => ?_)
  · skip
    exact gd_throw2 (text := "out of its range") hC hl9 hF (hts _ (by decide +kernel)) (hts _ (by decide +kernel)) (by decide +kernel) t2 dX3_needRange_10 dX3_needRange_13 dX3_needRange_14 dX3_needRange_16 dX3_needRange_19 hex (by decide) (by decide) (by decide) (by decide) hlk rfl (by omega) (by decide)
  · skip
    refine gd_iload_n hC dX3_needRange_5 rfl (j := 0) rfl ?_
    refine gd_iload_n hC dX3_needRange_6 rfl (j := 2) rfl ?_
    refine gd_icmp_le hC dX3_needRange_7 (tgt := 20) (by decide) ⟨by omega, by omega⟩ ⟨by omega, by omega⟩ (fun c2 => ?_) (fun c2 => ?_)
    · skip
      exact gd_return hC hr hlk dX3_needRange_20 (by decide) ⟨rfl, (by first | rfl | ((repeat' split) <;> first | rfl | omega)), (by omega)⟩
    · skip
      exact gd_throw2 (text := "out of its range") hC hl9 hF (hts _ (by decide +kernel)) (hts _ (by decide +kernel)) (by decide +kernel) t2 dX3_needRange_10 dX3_needRange_13 dX3_needRange_14 dX3_needRange_16 dX3_needRange_19 hex (by decide) (by decide) (by decide) (by decide) hlk rfl (by omega) (by decide)

abbrev rm_X1_valueOn_3 : Room := { frames := 0, cells := 0, slots := 0, locals := 0 }
set_option maxHeartbeats 4000000 in
set_option maxRecDepth 100000 in
theorem c_X1_valueOn_3 (l : Launch) (hl9 : l.stackTraces = false) (N0 : Nat) (G : zz_G) (Y : zz_Y) (a : Nat → Nat) (S : zz_S) (t d z : Int) (ht : zz_R t) (hd : zz_R d) (hz : zz_R z) (hc : 0 ≤ S 3 3 ∧ S 3 3 ≤ 512) : CtR l yX1_valueOn wsX1_valueOn rm_X1_valueOn_3 0 [.ref (a 3), zz_v t, zz_v d, zz_v z] N0 G Y a S (zz_vo (S 4) (S 5) (S 6) t d z (S 3 3).toNat) (S) (True) (False) (False) (False) := by
  refine Ct_.of (cc := cX1_valueOn) (maxL := 5) (ret := (some .int)) (by decide) rfl (Nat.le_of_ble_eq_true rfl) ?_
  intro p e s m args below meth c hC hts hr hlk hex hF
  have hK := hF.2.1
  have w1 : ∀ w ∈ u_ws RX1 TX1 4, w.before args s = true := fun w h => hts w (List.mem_cons_of_mem _ (List.mem_append_right _ h))
  have f9 : (Cond.fieldLink RX1 9 "Grievancehall$Changes" "things" "[I").before args s = true := hts _ (by decide +kernel)
  have f15 : (Cond.fieldLink RX1 15 "Grievancehall$Changes" "days" "[I").before args s = true := hts _ (by decide +kernel)
  have f18 : (Cond.fieldLink RX1 18 "Grievancehall$Changes" "values" "[I").before args s = true := hts _ (by decide +kernel)
  have f21 : (Cond.fieldLink RX1 21 "Grievancehall$Changes" "count" "I").before args s = true := hts _ (by decide +kernel)
  refine gd_lveq (lv' := [(0, .ref (a 3)), (1, zz_v t), (2, zz_v d), (3, zz_v z)]) rfl ?_
  obtain ⟨hx1, hx2⟩ := id ht
  obtain ⟨hn1, hn2⟩ := id hd
  obtain ⟨hn3, hn4⟩ := id hz
  refine gd_aload_n hC dX1_valueOn_0 rfl (j := 0) rfl ?_
  refine gd_getI hC w1 hK (ci := 1) rfl (by decide) rfl 3 (by decide) rfl f21 rfl dX1_valueOn_1 (fun r1 => ?_)
  obtain ⟨r1a, r1b⟩ := id r1
  refine gd_iconst hC dX1_valueOn_4 ?_
  refine gd_isub hC dX1_valueOn_5 ?_
  refine gd_istore hC dX1_valueOn_6 (by decide) (lv' := [(4, zz_v ((S 3 3) - 1)), (0, .ref (a 3)), (1, zz_v t), (2, zz_v d), (3, zz_v z)]) rfl ?_
  refine gd_sub [1, 2, 3, 4, 0] (lv' := [(0, .ref (a 3)), (1, zz_v t), (2, zz_v d), (3, zz_v z), (4, zz_v ((S 3 3) - 1))]) rfl ?_
  refine gd_loop (σ := Nat) (μ := fun vz => vz) (I := fun vz => (vz ≤ 512) ∧ (zz_vo (S 4) (S 5) (S 6) t d z (S 3 3).toNat = zz_vo (S 4) (S 5) (S 6) t d z vz)) (Sf := fun vz => S) (lf := fun vz => [(0, .ref (a 3)), (1, zz_v t), (2, zz_v d), (3, zz_v z), (4, zz_v ((vz : Int) - 1))]) ((S 3 3).toNat) (⟨by omega, rfl⟩) rfl (by rw [show (((S 3 3).toNat : Nat) : Int) = S 3 3 by omega]) (fun m hI ih8 => ?_)
  obtain ⟨hI0, hI1⟩ : (m ≤ 512) ∧ (zz_vo (S 4) (S 5) (S 6) t d z (S 3 3).toNat = zz_vo (S 4) (S 5) (S 6) t d z m) := hI
  refine gd_lveq (lv' := [(0, .ref (a 3)), (1, zz_v t), (2, zz_v d), (3, zz_v z), (4, zz_v ((m : Int) - 1))]) rfl ?_
  refine gd_eq (S' := S) rfl ?_
  refine gd_iload hC dX1_valueOn_8 (j := 4) rfl ?_
  refine gd_if_lt hC dX1_valueOn_10 (tgt := 49) (by decide) ⟨by omega, by omega⟩ (fun c2 => ?_) (fun c2 => ?_)
  · skip
    refine gd_iload_n hC dX1_valueOn_49 rfl (j := 3) rfl ?_
    exact gd_ireturn hC hr rfl hlk dX1_valueOn_50 (by decide) ⟨_, ⟨by omega, by omega⟩, rfl, (by first | rfl | ((repeat' split) <;> first | rfl | omega)), (by rw [hI1, show m = 0 by omega]; rfl), trivial⟩
  · skip
    refine gd_aload_n hC dX1_valueOn_13 rfl (j := 0) rfl ?_
    refine gd_getR hC w1 hK (ci := 1) rfl (by decide) rfl 0 (by decide) (j := 4) rfl f9 rfl dX1_valueOn_14 ?_
    refine gd_iload hC dX1_valueOn_17 (j := 4) rfl ?_
    refine gd_iald hC hK (j := (m - 1)) rfl (by decide) (by omega) (by omega) (by decide) dX1_valueOn_19 (fun r3 => ?_)
    obtain ⟨r3a, r3b⟩ := id r3
    refine gd_iload_n hC dX1_valueOn_20 rfl (j := 1) rfl ?_
    refine gd_icmp_ne hC dX1_valueOn_21 (tgt := 43) (by decide) ⟨by omega, by omega⟩ ⟨by omega, by omega⟩ (fun c4 => ?_) (fun c4 => ?_)
    · skip
      refine gd_iinc hC dX1_valueOn_43 (j := 4) rfl (y := (m : Int) - 1 + (-1)) (by omega) (by decide) (lv' := [(4, zz_v ((m : Int) - 1 + (-1))), (0, .ref (a 3)), (1, zz_v t), (2, zz_v d), (3, zz_v z)]) rfl ?_
      refine gd_goto hC dX1_valueOn_46 (tgt := 8) (by decide) ?_
      refine gd_sub [1, 2, 3, 4, 0] (lv' := [(0, .ref (a 3)), (1, zz_v t), (2, zz_v d), (3, zz_v z), (4, zz_v ((m : Int) - 1 + (-1)))]) rfl ?_
      refine gd_lveq (lv' := [(0, .ref (a 3)), (1, zz_v t), (2, zz_v d), (3, zz_v z), (4, zz_v ((((m - 1) : Nat) : Int) - 1))]) (by rw [show (m : Int) - 1 + (-1) = ((m - 1 : Nat) : Int) - 1 by omega]) ?_
      exact ih8 (m - 1) ⟨by omega, by rw [hI1, zz_vo_s (show 0 < m by omega), if_neg (by omega)]⟩ (show (m - 1) < m by omega)
    · skip
      refine gd_aload_n hC dX1_valueOn_24 rfl (j := 0) rfl ?_
      refine gd_getR hC w1 hK (ci := 1) rfl (by decide) rfl 1 (by decide) (j := 5) rfl f15 rfl dX1_valueOn_25 ?_
      refine gd_iload hC dX1_valueOn_28 (j := 4) rfl ?_
      refine gd_iald hC hK (j := (m - 1)) rfl (by decide) (by omega) (by omega) (by decide) dX1_valueOn_30 (fun r5 => ?_)
      obtain ⟨r5a, r5b⟩ := id r5
      refine gd_iload_n hC dX1_valueOn_31 rfl (j := 2) rfl ?_
      refine gd_icmp_gt hC dX1_valueOn_32 (tgt := 43) (by decide) ⟨by omega, by omega⟩ ⟨by omega, by omega⟩ (fun c6 => ?_) (fun c6 => ?_)
      · skip
        refine gd_iinc hC dX1_valueOn_43 (j := 4) rfl (y := (m : Int) - 1 + (-1)) (by omega) (by decide) (lv' := [(4, zz_v ((m : Int) - 1 + (-1))), (0, .ref (a 3)), (1, zz_v t), (2, zz_v d), (3, zz_v z)]) rfl ?_
        refine gd_goto hC dX1_valueOn_46 (tgt := 8) (by decide) ?_
        refine gd_sub [1, 2, 3, 4, 0] (lv' := [(0, .ref (a 3)), (1, zz_v t), (2, zz_v d), (3, zz_v z), (4, zz_v ((m : Int) - 1 + (-1)))]) rfl ?_
        refine gd_lveq (lv' := [(0, .ref (a 3)), (1, zz_v t), (2, zz_v d), (3, zz_v z), (4, zz_v ((((m - 1) : Nat) : Int) - 1))]) (by rw [show (m : Int) - 1 + (-1) = ((m - 1 : Nat) : Int) - 1 by omega]) ?_
        exact ih8 (m - 1) ⟨by omega, by rw [hI1, zz_vo_s (show 0 < m by omega), if_neg (by omega)]⟩ (show (m - 1) < m by omega)
      · skip
        refine gd_aload_n hC dX1_valueOn_35 rfl (j := 0) rfl ?_
        refine gd_getR hC w1 hK (ci := 1) rfl (by decide) rfl 2 (by decide) (j := 6) rfl f18 rfl dX1_valueOn_36 ?_
        refine gd_iload hC dX1_valueOn_39 (j := 4) rfl ?_
        refine gd_iald hC hK (j := (m - 1)) rfl (by decide) (by omega) (by omega) (by decide) dX1_valueOn_41 (fun r7 => ?_)
        obtain ⟨r7a, r7b⟩ := id r7
        exact gd_ireturn hC hr rfl hlk dX1_valueOn_42 (by decide) ⟨_, ⟨by omega, by omega⟩, rfl, (by first | rfl | ((repeat' split) <;> first | rfl | omega)), (by rw [hI1, zz_vo_s (show 0 < m by omega), if_pos (by omega)]), trivial⟩

abbrev rm_X1_tell_3 : Room := { frames := 0, cells := 0, slots := 0, locals := 0 }
set_option maxHeartbeats 4000000 in
set_option maxRecDepth 100000 in
theorem c_X1_tell_3 (l : Launch) (hl9 : l.stackTraces = false) (N0 : Nat) (G : zz_G) (Y : zz_Y) (a : Nat → Nat) (S : zz_S) (t d z : Int) (ht : zz_R t) (hd : zz_R d) (hz : zz_R z) (hc : 0 ≤ S 3 3 ∧ S 3 3 < 512) : CtN l yX1_tell wsX1_tell rm_X1_tell_3 0 [.ref (a 3), zz_v t, zz_v d, zz_v z] N0 G Y a S (zz_u (zz_u (zz_u (zz_u (S) (4) ((S 3 3).toNat) (t)) (5) ((S 3 3).toNat) (d)) (6) ((S 3 3).toNat) (z)) (3) (3) (S 3 3 + 1)) (True) (False) (False) (False) := by
  refine Ct_.of (cc := cX1_tell) (maxL := 4) (ret := none) (by decide) rfl (Nat.le_of_ble_eq_true rfl) ?_
  intro p e s m args below meth c hC hts hr hlk hex hF
  have hK := hF.2.1
  have w1 : ∀ w ∈ u_ws RX1 TX1 4, w.before args s = true := fun w h => hts w (List.mem_cons_of_mem _ (List.mem_append_right _ h))
  have f9 : (Cond.fieldLink RX1 9 "Grievancehall$Changes" "things" "[I").before args s = true := hts _ (by decide +kernel)
  have f15 : (Cond.fieldLink RX1 15 "Grievancehall$Changes" "days" "[I").before args s = true := hts _ (by decide +kernel)
  have f18 : (Cond.fieldLink RX1 18 "Grievancehall$Changes" "values" "[I").before args s = true := hts _ (by decide +kernel)
  have f21 : (Cond.fieldLink RX1 21 "Grievancehall$Changes" "count" "I").before args s = true := hts _ (by decide +kernel)
  refine gd_lveq (lv' := [(0, .ref (a 3)), (1, zz_v t), (2, zz_v d), (3, zz_v z)]) rfl ?_
  obtain ⟨hx1, hx2⟩ := id ht
  obtain ⟨hn1, hn2⟩ := id hd
  obtain ⟨hn3, hn4⟩ := id hz
  refine gd_aload_n hC dX1_tell_0 rfl (j := 0) rfl ?_
  refine gd_getI hC w1 hK (ci := 1) rfl (by decide) rfl 3 (by decide) rfl f21 rfl dX1_tell_1 (fun r1 => ?_)
  obtain ⟨r1a, r1b⟩ := id r1
  refine gd_sipush hC dX1_tell_4 rfl ?_
  refine gd_icmp_lt hC dX1_tell_7 (tgt := 11) (by decide) ⟨by omega, by omega⟩ ⟨by decide, by decide⟩ (fun c2 => ?_) (fun c2 => (by omega))
  refine gd_aload_n hC dX1_tell_11 rfl (j := 0) rfl ?_
  refine gd_getR hC w1 hK (ci := 1) rfl (by decide) rfl 0 (by decide) (j := 4) rfl f9 rfl dX1_tell_12 ?_
  refine gd_aload_n hC dX1_tell_15 rfl (j := 0) rfl ?_
  refine gd_getI hC w1 hK (ci := 1) rfl (by decide) rfl 3 (by decide) rfl f21 rfl dX1_tell_16 (fun r3 => ?_)
  obtain ⟨r3a, r3b⟩ := id r3
  refine gd_iload_n hC dX1_tell_19 rfl (j := 1) rfl ?_
  refine gd_iast hC hK (j := (S 3 3).toNat) rfl (by decide) (by omega) (by omega) (by decide) ⟨by omega, by omega⟩ dX1_tell_20 ?_
  refine gd_aload_n hC dX1_tell_21 rfl (j := 0) rfl ?_
  refine gd_getR hC w1 hK (ci := 1) rfl (by decide) rfl 1 (by decide) (j := 5) rfl f15 rfl dX1_tell_22 ?_
  refine gd_aload_n hC dX1_tell_25 rfl (j := 0) rfl ?_
  refine gd_getI hC w1 hK (ci := 1) rfl (by decide) rfl 3 (by decide) rfl f21 rfl dX1_tell_26 (fun r4 => ?_)
  obtain ⟨r4a, r4b⟩ := id r4
  refine gd_top (y := S 3 3) (zz_u_ne _ _ (by omega)) ?_
  rw [(zz_u_ne _ _ (by omega) : (zz_u (S) (4) ((S 3 3).toNat) (t)) (3) (3) = S 3 3)] at r4a r4b
  refine gd_iload_n hC dX1_tell_29 rfl (j := 2) rfl ?_
  refine gd_iast hC hK (j := (S 3 3).toNat) rfl (by decide) (by omega) (by omega) (by decide) ⟨by omega, by omega⟩ dX1_tell_30 ?_
  refine gd_aload_n hC dX1_tell_31 rfl (j := 0) rfl ?_
  refine gd_getR hC w1 hK (ci := 1) rfl (by decide) rfl 2 (by decide) (j := 6) rfl f18 rfl dX1_tell_32 ?_
  refine gd_aload_n hC dX1_tell_35 rfl (j := 0) rfl ?_
  refine gd_getI hC w1 hK (ci := 1) rfl (by decide) rfl 3 (by decide) rfl f21 rfl dX1_tell_36 (fun r5 => ?_)
  obtain ⟨r5a, r5b⟩ := id r5
  refine gd_top (y := S 3 3) ((zz_u_ne _ _ (by omega)).trans (zz_u_ne _ _ (by omega))) ?_
  rw [((zz_u_ne _ _ (by omega)).trans (zz_u_ne _ _ (by omega)) : (zz_u (zz_u (S) (4) ((S 3 3).toNat) (t)) (5) ((S 3 3).toNat) (d)) (3) (3) = S 3 3)] at r5a r5b
  refine gd_iload_n hC dX1_tell_39 rfl (j := 3) rfl ?_
  refine gd_iast hC hK (j := (S 3 3).toNat) rfl (by decide) (by omega) (by omega) (by decide) ⟨by omega, by omega⟩ dX1_tell_40 ?_
  refine gd_aload_n hC dX1_tell_41 rfl (j := 0) rfl ?_
  refine gd_dup hC dX1_tell_42 rfl ?_
  refine gd_getI hC w1 hK (ci := 1) rfl (by decide) rfl 3 (by decide) rfl f21 rfl dX1_tell_43 (fun r6 => ?_)
  obtain ⟨r6a, r6b⟩ := id r6
  refine gd_top (y := S 3 3) ((zz_u_ne _ _ (by omega)).trans ((zz_u_ne _ _ (by omega)).trans (zz_u_ne _ _ (by omega)))) ?_
  rw [((zz_u_ne _ _ (by omega)).trans ((zz_u_ne _ _ (by omega)).trans (zz_u_ne _ _ (by omega))) : (zz_u (zz_u (zz_u (S) (4) ((S 3 3).toNat) (t)) (5) ((S 3 3).toNat) (d)) (6) ((S 3 3).toNat) (z)) (3) (3) = S 3 3)] at r6a r6b
  refine gd_iconst hC dX1_tell_46 ?_
  refine gd_iadd hC dX1_tell_47 ?_
  refine gd_put hC w1 tyX1 tyX1_ok nmX1 hK (ci := 1) rfl (by decide) rfl 3 (by decide) rfl f21 rfl rfl (ty := .int) (by decide +kernel) rfl rfl ⟨by omega, by omega⟩ dX1_tell_48 ?_
  exact gd_return hC hr hlk dX1_tell_51 (by decide) ⟨rfl, (by first | rfl | ((repeat' split) <;> first | rfl | omega)), trivial⟩

abbrev rm_X1_valueOn_7 : Room := { frames := 0, cells := 0, slots := 0, locals := 0 }
set_option maxHeartbeats 4000000 in
set_option maxRecDepth 100000 in
theorem c_X1_valueOn_7 (l : Launch) (hl9 : l.stackTraces = false) (N0 : Nat) (G : zz_G) (Y : zz_Y) (a : Nat → Nat) (S : zz_S) (t d z : Int) (ht : zz_R t) (hd : zz_R d) (hz : zz_R z) (hc : 0 ≤ S 7 3 ∧ S 7 3 ≤ 512) : CtR l yX1_valueOn wsX1_valueOn rm_X1_valueOn_7 0 [.ref (a 7), zz_v t, zz_v d, zz_v z] N0 G Y a S (zz_vo (S 8) (S 9) (S 10) t d z (S 7 3).toNat) (S) (True) (False) (False) (False) := by
  refine Ct_.of (cc := cX1_valueOn) (maxL := 5) (ret := (some .int)) (by decide) rfl (Nat.le_of_ble_eq_true rfl) ?_
  intro p e s m args below meth c hC hts hr hlk hex hF
  have hK := hF.2.1
  have w1 : ∀ w ∈ u_ws RX1 TX1 4, w.before args s = true := fun w h => hts w (List.mem_cons_of_mem _ (List.mem_append_right _ h))
  have f9 : (Cond.fieldLink RX1 9 "Grievancehall$Changes" "things" "[I").before args s = true := hts _ (by decide +kernel)
  have f15 : (Cond.fieldLink RX1 15 "Grievancehall$Changes" "days" "[I").before args s = true := hts _ (by decide +kernel)
  have f18 : (Cond.fieldLink RX1 18 "Grievancehall$Changes" "values" "[I").before args s = true := hts _ (by decide +kernel)
  have f21 : (Cond.fieldLink RX1 21 "Grievancehall$Changes" "count" "I").before args s = true := hts _ (by decide +kernel)
  refine gd_lveq (lv' := [(0, .ref (a 7)), (1, zz_v t), (2, zz_v d), (3, zz_v z)]) rfl ?_
  obtain ⟨hx1, hx2⟩ := id ht
  obtain ⟨hn1, hn2⟩ := id hd
  obtain ⟨hn3, hn4⟩ := id hz
  refine gd_aload_n hC dX1_valueOn_0 rfl (j := 0) rfl ?_
  refine gd_getI hC w1 hK (ci := 1) rfl (by decide) rfl 3 (by decide) rfl f21 rfl dX1_valueOn_1 (fun r1 => ?_)
  obtain ⟨r1a, r1b⟩ := id r1
  refine gd_iconst hC dX1_valueOn_4 ?_
  refine gd_isub hC dX1_valueOn_5 ?_
  refine gd_istore hC dX1_valueOn_6 (by decide) (lv' := [(4, zz_v ((S 7 3) - 1)), (0, .ref (a 7)), (1, zz_v t), (2, zz_v d), (3, zz_v z)]) rfl ?_
  refine gd_sub [1, 2, 3, 4, 0] (lv' := [(0, .ref (a 7)), (1, zz_v t), (2, zz_v d), (3, zz_v z), (4, zz_v ((S 7 3) - 1))]) rfl ?_
  refine gd_loop (σ := Nat) (μ := fun vz => vz) (I := fun vz => (vz ≤ 512) ∧ (zz_vo (S 8) (S 9) (S 10) t d z (S 7 3).toNat = zz_vo (S 8) (S 9) (S 10) t d z vz)) (Sf := fun vz => S) (lf := fun vz => [(0, .ref (a 7)), (1, zz_v t), (2, zz_v d), (3, zz_v z), (4, zz_v ((vz : Int) - 1))]) ((S 7 3).toNat) (⟨by omega, rfl⟩) rfl (by rw [show (((S 7 3).toNat : Nat) : Int) = S 7 3 by omega]) (fun m hI ih8 => ?_)
  obtain ⟨hI0, hI1⟩ : (m ≤ 512) ∧ (zz_vo (S 8) (S 9) (S 10) t d z (S 7 3).toNat = zz_vo (S 8) (S 9) (S 10) t d z m) := hI
  refine gd_lveq (lv' := [(0, .ref (a 7)), (1, zz_v t), (2, zz_v d), (3, zz_v z), (4, zz_v ((m : Int) - 1))]) rfl ?_
  refine gd_eq (S' := S) rfl ?_
  refine gd_iload hC dX1_valueOn_8 (j := 4) rfl ?_
  refine gd_if_lt hC dX1_valueOn_10 (tgt := 49) (by decide) ⟨by omega, by omega⟩ (fun c2 => ?_) (fun c2 => ?_)
  · skip
    refine gd_iload_n hC dX1_valueOn_49 rfl (j := 3) rfl ?_
    exact gd_ireturn hC hr rfl hlk dX1_valueOn_50 (by decide) ⟨_, ⟨by omega, by omega⟩, rfl, (by first | rfl | ((repeat' split) <;> first | rfl | omega)), (by rw [hI1, show m = 0 by omega]; rfl), trivial⟩
  · skip
    refine gd_aload_n hC dX1_valueOn_13 rfl (j := 0) rfl ?_
    refine gd_getR hC w1 hK (ci := 1) rfl (by decide) rfl 0 (by decide) (j := 8) rfl f9 rfl dX1_valueOn_14 ?_
    refine gd_iload hC dX1_valueOn_17 (j := 4) rfl ?_
    refine gd_iald hC hK (j := (m - 1)) rfl (by decide) (by omega) (by omega) (by decide) dX1_valueOn_19 (fun r3 => ?_)
    obtain ⟨r3a, r3b⟩ := id r3
    refine gd_iload_n hC dX1_valueOn_20 rfl (j := 1) rfl ?_
    refine gd_icmp_ne hC dX1_valueOn_21 (tgt := 43) (by decide) ⟨by omega, by omega⟩ ⟨by omega, by omega⟩ (fun c4 => ?_) (fun c4 => ?_)
    · skip
      refine gd_iinc hC dX1_valueOn_43 (j := 4) rfl (y := (m : Int) - 1 + (-1)) (by omega) (by decide) (lv' := [(4, zz_v ((m : Int) - 1 + (-1))), (0, .ref (a 7)), (1, zz_v t), (2, zz_v d), (3, zz_v z)]) rfl ?_
      refine gd_goto hC dX1_valueOn_46 (tgt := 8) (by decide) ?_
      refine gd_sub [1, 2, 3, 4, 0] (lv' := [(0, .ref (a 7)), (1, zz_v t), (2, zz_v d), (3, zz_v z), (4, zz_v ((m : Int) - 1 + (-1)))]) rfl ?_
      refine gd_lveq (lv' := [(0, .ref (a 7)), (1, zz_v t), (2, zz_v d), (3, zz_v z), (4, zz_v ((((m - 1) : Nat) : Int) - 1))]) (by rw [show (m : Int) - 1 + (-1) = ((m - 1 : Nat) : Int) - 1 by omega]) ?_
      exact ih8 (m - 1) ⟨by omega, by rw [hI1, zz_vo_s (show 0 < m by omega), if_neg (by omega)]⟩ (show (m - 1) < m by omega)
    · skip
      refine gd_aload_n hC dX1_valueOn_24 rfl (j := 0) rfl ?_
      refine gd_getR hC w1 hK (ci := 1) rfl (by decide) rfl 1 (by decide) (j := 9) rfl f15 rfl dX1_valueOn_25 ?_
      refine gd_iload hC dX1_valueOn_28 (j := 4) rfl ?_
      refine gd_iald hC hK (j := (m - 1)) rfl (by decide) (by omega) (by omega) (by decide) dX1_valueOn_30 (fun r5 => ?_)
      obtain ⟨r5a, r5b⟩ := id r5
      refine gd_iload_n hC dX1_valueOn_31 rfl (j := 2) rfl ?_
      refine gd_icmp_gt hC dX1_valueOn_32 (tgt := 43) (by decide) ⟨by omega, by omega⟩ ⟨by omega, by omega⟩ (fun c6 => ?_) (fun c6 => ?_)
      · skip
        refine gd_iinc hC dX1_valueOn_43 (j := 4) rfl (y := (m : Int) - 1 + (-1)) (by omega) (by decide) (lv' := [(4, zz_v ((m : Int) - 1 + (-1))), (0, .ref (a 7)), (1, zz_v t), (2, zz_v d), (3, zz_v z)]) rfl ?_
        refine gd_goto hC dX1_valueOn_46 (tgt := 8) (by decide) ?_
        refine gd_sub [1, 2, 3, 4, 0] (lv' := [(0, .ref (a 7)), (1, zz_v t), (2, zz_v d), (3, zz_v z), (4, zz_v ((m : Int) - 1 + (-1)))]) rfl ?_
        refine gd_lveq (lv' := [(0, .ref (a 7)), (1, zz_v t), (2, zz_v d), (3, zz_v z), (4, zz_v ((((m - 1) : Nat) : Int) - 1))]) (by rw [show (m : Int) - 1 + (-1) = ((m - 1 : Nat) : Int) - 1 by omega]) ?_
        exact ih8 (m - 1) ⟨by omega, by rw [hI1, zz_vo_s (show 0 < m by omega), if_neg (by omega)]⟩ (show (m - 1) < m by omega)
      · skip
        refine gd_aload_n hC dX1_valueOn_35 rfl (j := 0) rfl ?_
        refine gd_getR hC w1 hK (ci := 1) rfl (by decide) rfl 2 (by decide) (j := 10) rfl f18 rfl dX1_valueOn_36 ?_
        refine gd_iload hC dX1_valueOn_39 (j := 4) rfl ?_
        refine gd_iald hC hK (j := (m - 1)) rfl (by decide) (by omega) (by omega) (by decide) dX1_valueOn_41 (fun r7 => ?_)
        obtain ⟨r7a, r7b⟩ := id r7
        exact gd_ireturn hC hr rfl hlk dX1_valueOn_42 (by decide) ⟨_, ⟨by omega, by omega⟩, rfl, (by first | rfl | ((repeat' split) <;> first | rfl | omega)), (by rw [hI1, zz_vo_s (show 0 < m by omega), if_pos (by omega)]), trivial⟩

abbrev rm_X1_tell_7 : Room := { frames := 0, cells := 0, slots := 0, locals := 0 }
set_option maxHeartbeats 4000000 in
set_option maxRecDepth 100000 in
theorem c_X1_tell_7 (l : Launch) (hl9 : l.stackTraces = false) (N0 : Nat) (G : zz_G) (Y : zz_Y) (a : Nat → Nat) (S : zz_S) (t d z : Int) (ht : zz_R t) (hd : zz_R d) (hz : zz_R z) (hc : 0 ≤ S 7 3 ∧ S 7 3 < 512) : CtN l yX1_tell wsX1_tell rm_X1_tell_7 0 [.ref (a 7), zz_v t, zz_v d, zz_v z] N0 G Y a S (zz_u (zz_u (zz_u (zz_u (S) (8) ((S 7 3).toNat) (t)) (9) ((S 7 3).toNat) (d)) (10) ((S 7 3).toNat) (z)) (7) (3) (S 7 3 + 1)) (True) (False) (False) (False) := by
  refine Ct_.of (cc := cX1_tell) (maxL := 4) (ret := none) (by decide) rfl (Nat.le_of_ble_eq_true rfl) ?_
  intro p e s m args below meth c hC hts hr hlk hex hF
  have hK := hF.2.1
  have w1 : ∀ w ∈ u_ws RX1 TX1 4, w.before args s = true := fun w h => hts w (List.mem_cons_of_mem _ (List.mem_append_right _ h))
  have f9 : (Cond.fieldLink RX1 9 "Grievancehall$Changes" "things" "[I").before args s = true := hts _ (by decide +kernel)
  have f15 : (Cond.fieldLink RX1 15 "Grievancehall$Changes" "days" "[I").before args s = true := hts _ (by decide +kernel)
  have f18 : (Cond.fieldLink RX1 18 "Grievancehall$Changes" "values" "[I").before args s = true := hts _ (by decide +kernel)
  have f21 : (Cond.fieldLink RX1 21 "Grievancehall$Changes" "count" "I").before args s = true := hts _ (by decide +kernel)
  refine gd_lveq (lv' := [(0, .ref (a 7)), (1, zz_v t), (2, zz_v d), (3, zz_v z)]) rfl ?_
  obtain ⟨hx1, hx2⟩ := id ht
  obtain ⟨hn1, hn2⟩ := id hd
  obtain ⟨hn3, hn4⟩ := id hz
  refine gd_aload_n hC dX1_tell_0 rfl (j := 0) rfl ?_
  refine gd_getI hC w1 hK (ci := 1) rfl (by decide) rfl 3 (by decide) rfl f21 rfl dX1_tell_1 (fun r1 => ?_)
  obtain ⟨r1a, r1b⟩ := id r1
  refine gd_sipush hC dX1_tell_4 rfl ?_
  refine gd_icmp_lt hC dX1_tell_7 (tgt := 11) (by decide) ⟨by omega, by omega⟩ ⟨by decide, by decide⟩ (fun c2 => ?_) (fun c2 => (by omega))
  refine gd_aload_n hC dX1_tell_11 rfl (j := 0) rfl ?_
  refine gd_getR hC w1 hK (ci := 1) rfl (by decide) rfl 0 (by decide) (j := 8) rfl f9 rfl dX1_tell_12 ?_
  refine gd_aload_n hC dX1_tell_15 rfl (j := 0) rfl ?_
  refine gd_getI hC w1 hK (ci := 1) rfl (by decide) rfl 3 (by decide) rfl f21 rfl dX1_tell_16 (fun r3 => ?_)
  obtain ⟨r3a, r3b⟩ := id r3
  refine gd_iload_n hC dX1_tell_19 rfl (j := 1) rfl ?_
  refine gd_iast hC hK (j := (S 7 3).toNat) rfl (by decide) (by omega) (by omega) (by decide) ⟨by omega, by omega⟩ dX1_tell_20 ?_
  refine gd_aload_n hC dX1_tell_21 rfl (j := 0) rfl ?_
  refine gd_getR hC w1 hK (ci := 1) rfl (by decide) rfl 1 (by decide) (j := 9) rfl f15 rfl dX1_tell_22 ?_
  refine gd_aload_n hC dX1_tell_25 rfl (j := 0) rfl ?_
  refine gd_getI hC w1 hK (ci := 1) rfl (by decide) rfl 3 (by decide) rfl f21 rfl dX1_tell_26 (fun r4 => ?_)
  obtain ⟨r4a, r4b⟩ := id r4
  refine gd_top (y := S 7 3) (zz_u_ne _ _ (by omega)) ?_
  rw [(zz_u_ne _ _ (by omega) : (zz_u (S) (8) ((S 7 3).toNat) (t)) (7) (3) = S 7 3)] at r4a r4b
  refine gd_iload_n hC dX1_tell_29 rfl (j := 2) rfl ?_
  refine gd_iast hC hK (j := (S 7 3).toNat) rfl (by decide) (by omega) (by omega) (by decide) ⟨by omega, by omega⟩ dX1_tell_30 ?_
  refine gd_aload_n hC dX1_tell_31 rfl (j := 0) rfl ?_
  refine gd_getR hC w1 hK (ci := 1) rfl (by decide) rfl 2 (by decide) (j := 10) rfl f18 rfl dX1_tell_32 ?_
  refine gd_aload_n hC dX1_tell_35 rfl (j := 0) rfl ?_
  refine gd_getI hC w1 hK (ci := 1) rfl (by decide) rfl 3 (by decide) rfl f21 rfl dX1_tell_36 (fun r5 => ?_)
  obtain ⟨r5a, r5b⟩ := id r5
  refine gd_top (y := S 7 3) ((zz_u_ne _ _ (by omega)).trans (zz_u_ne _ _ (by omega))) ?_
  rw [((zz_u_ne _ _ (by omega)).trans (zz_u_ne _ _ (by omega)) : (zz_u (zz_u (S) (8) ((S 7 3).toNat) (t)) (9) ((S 7 3).toNat) (d)) (7) (3) = S 7 3)] at r5a r5b
  refine gd_iload_n hC dX1_tell_39 rfl (j := 3) rfl ?_
  refine gd_iast hC hK (j := (S 7 3).toNat) rfl (by decide) (by omega) (by omega) (by decide) ⟨by omega, by omega⟩ dX1_tell_40 ?_
  refine gd_aload_n hC dX1_tell_41 rfl (j := 0) rfl ?_
  refine gd_dup hC dX1_tell_42 rfl ?_
  refine gd_getI hC w1 hK (ci := 1) rfl (by decide) rfl 3 (by decide) rfl f21 rfl dX1_tell_43 (fun r6 => ?_)
  obtain ⟨r6a, r6b⟩ := id r6
  refine gd_top (y := S 7 3) ((zz_u_ne _ _ (by omega)).trans ((zz_u_ne _ _ (by omega)).trans (zz_u_ne _ _ (by omega)))) ?_
  rw [((zz_u_ne _ _ (by omega)).trans ((zz_u_ne _ _ (by omega)).trans (zz_u_ne _ _ (by omega))) : (zz_u (zz_u (zz_u (S) (8) ((S 7 3).toNat) (t)) (9) ((S 7 3).toNat) (d)) (10) ((S 7 3).toNat) (z)) (7) (3) = S 7 3)] at r6a r6b
  refine gd_iconst hC dX1_tell_46 ?_
  refine gd_iadd hC dX1_tell_47 ?_
  refine gd_put hC w1 tyX1 tyX1_ok nmX1 hK (ci := 1) rfl (by decide) rfl 3 (by decide) rfl f21 rfl rfl (ty := .int) (by decide +kernel) rfl rfl ⟨by omega, by omega⟩ dX1_tell_48 ?_
  exact gd_return hC hr hlk dX1_tell_51 (by decide) ⟨rfl, (by first | rfl | ((repeat' split) <;> first | rfl | omega)), trivial⟩
