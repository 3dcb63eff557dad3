abbrev rm_J0_coder_7d493 : Room := { frames := 0, cells := 0, slots := 0, locals := 0 }
set_option maxHeartbeats 4000000 in
set_option maxRecDepth 100000 in
theorem c_J0_coder_7d493 (l : Launch) (hl9 : l.stackTraces = false) (N0 : Nat) (G : zz_G) (Y : zz_Y) (a : Nat → Nat) (S : zz_S) (i : Nat) (hi4 : i < 4) : CtR l yJ0_coder_7d493 wsJ0_coder_7d493 rm_J0_coder_7d493 0 [.ref (Y.1 i)] N0 G Y a S (0) (S) (True) (False) (False) (False) := by
  refine Ct_.of (cc := cJ0_coder_7d493) (maxL := 1) (ret := (some .byte)) (by decide) rfl (Nat.le_of_ble_eq_true rfl) ?_
  intro p e s m args below meth c hC hts hr hlk hex hF
  have hK := hF.2.1
  have f15 : (Cond.fieldLink RJ0 15 "java/lang/String" "coder" "B").before args s = true := hts _ (by decide +kernel)
  have f38 : (Cond.fieldLink RJ0 38 "java/lang/String" "COMPACT_STRINGS" "Z").before args s = true := hts _ (by decide +kernel)
  refine gd_lveq (lv' := [(0, .ref (Y.1 i))]) rfl ?_
  refine gd_cs hC hF f38 dJ0_coder_7d493_0 ?_
  refine gd_if_eq hC dJ0_coder_7d493_3 (tgt := 13) (by decide) ⟨by decide, by decide⟩ (fun c1 => (by omega)) (fun c1 => ?_)
  refine gd_aload_n hC dJ0_coder_7d493_6 rfl (j := 0) rfl ?_
  refine gd_strC hC hF (i := i) (by omega) f15 dJ0_coder_7d493_7 ?_
  refine gd_goto hC dJ0_coder_7d493_10 (tgt := 14) (by decide) ?_
  exact gd_ireturn hC hr rfl hlk dJ0_coder_7d493_14 (by decide) ⟨_, ⟨by decide, by decide⟩, rfl, (by first | rfl | ((repeat' split) <;> first | rfl | omega)), (by first | rfl | omega), trivial⟩

abbrev rm_J0_isLatin1_aae02 : Room := { frames := 0, cells := 0, slots := 0, locals := 0 }
set_option maxHeartbeats 4000000 in
set_option maxRecDepth 100000 in
theorem c_J0_isLatin1_aae02 (l : Launch) (hl9 : l.stackTraces = false) (N0 : Nat) (G : zz_G) (Y : zz_Y) (a : Nat → Nat) (S : zz_S) (i : Nat) (hi4 : i < 4) : CtR l yJ0_isLatin1_aae02 wsJ0_isLatin1_aae02 rm_J0_isLatin1_aae02 0 [.ref (Y.1 i)] N0 G Y a S (1) (S) (True) (False) (False) (False) := by
  refine Ct_.of (cc := cJ0_isLatin1_aae02) (maxL := 1) (ret := (some .boolean)) (by decide) rfl (Nat.le_of_ble_eq_true rfl) ?_
  intro p e s m args below meth c hC hts hr hlk hex hF
  have hK := hF.2.1
  have f15 : (Cond.fieldLink RJ0 15 "java/lang/String" "coder" "B").before args s = true := hts _ (by decide +kernel)
  have f38 : (Cond.fieldLink RJ0 38 "java/lang/String" "COMPACT_STRINGS" "Z").before args s = true := hts _ (by decide +kernel)
  refine gd_lveq (lv' := [(0, .ref (Y.1 i))]) rfl ?_
  refine gd_cs hC hF f38 dJ0_isLatin1_aae02_0 ?_
  refine gd_if_eq hC dJ0_isLatin1_aae02_3 (tgt := 17) (by decide) ⟨by decide, by decide⟩ (fun c1 => (by omega)) (fun c1 => ?_)
  refine gd_aload_n hC dJ0_isLatin1_aae02_6 rfl (j := 0) rfl ?_
  refine gd_strC hC hF (i := i) (by omega) f15 dJ0_isLatin1_aae02_7 ?_
  refine gd_if_ne hC dJ0_isLatin1_aae02_10 (tgt := 17) (by decide) ⟨by decide, by decide⟩ (fun c2 => (by omega)) (fun c2 => ?_)
  refine gd_iconst hC dJ0_isLatin1_aae02_13 ?_
  refine gd_goto hC dJ0_isLatin1_aae02_14 (tgt := 18) (by decide) ?_
  exact gd_ireturn hC hr (zz_nb (by omega)) hlk dJ0_isLatin1_aae02_18 (by decide) ⟨_, ⟨by decide, by decide⟩, rfl, (by first | rfl | ((repeat' split) <;> first | rfl | omega)), (by first | rfl | omega), trivial⟩

abbrev rm_J0_length_8abf5 : Room := { frames := 1, cells := 0, slots := 0, locals := 20 }
set_option maxHeartbeats 4000000 in
set_option maxRecDepth 100000 in
theorem c_J0_length_8abf5 (l : Launch) (hl9 : l.stackTraces = false) (N0 : Nat) (G : zz_G) (Y : zz_Y) (a : Nat → Nat) (S : zz_S) (i : Nat) (hi4 : i < 4) : CtR l yJ0_length_8abf5 wsJ0_length_8abf5 rm_J0_length_8abf5 0 [.ref (Y.1 i)] N0 G Y a S (((zz_wl.getD i 0 : Nat) : Int)) (S) (True) (False) (False) (False) := by
  refine Ct_.of (cc := cJ0_length_8abf5) (maxL := 1) (ret := (some .int)) (by decide) rfl (Nat.le_of_ble_eq_true rfl) ?_
  intro p e s m args below meth c hC hts hr hlk hex hF
  have hK := hF.2.1
  have f9 : (Cond.fieldLink RJ0 9 "java/lang/String" "value" "[B").before args s = true := hts _ (by decide +kernel)
  refine gd_lveq (lv' := [(0, .ref (Y.1 i))]) rfl ?_
  have hwl : zz_wl.getD i 0 < 8 := by rcases (show i = 0 ∨ i = 1 ∨ i = 2 ∨ i = 3 by omega) with rfl | rfl | rfl | rfl <;> decide
  refine gd_aload_n hC dJ0_length_8abf5_0 rfl (j := 0) rfl ?_
  refine gd_strV hC hF (i := i) (by omega) f9 dJ0_length_8abf5_1 ?_
  refine gd_slen hC hF (i := i) (by omega) dJ0_length_8abf5_4 ?_
  refine gd_aload_n hC dJ0_length_8abf5_5 rfl (j := 0) rfl ?_
  refine gd_callTR (As := []) (rest := [zz_v ((zz_wl.getD i 0 : Nat) : Int)]) (i := i) hC hF (fun hR => c_J0_coder_7d493 l hl9 N0 G Y a (S) i (by omega)) (cwV 0 hts gJ0_length_8abf5_J0_coder_7d493 rfl rfl rfl (by decide +kernel) ⟨by decide, by decide⟩) (by omega) rfl rfl (Nat.le_of_ble_eq_true rfl) dJ0_length_8abf5_6 ⟨by decide, by decide⟩ (fun E hx => zz_xn hx) (fun q1 q1r => ?_)
  obtain ⟨q1a, q1b⟩ := id q1r
  refine gd_ishr0 hC dJ0_length_8abf5_9 ?_
  exact gd_ireturn hC hr rfl hlk dJ0_length_8abf5_10 (by decide) ⟨_, ⟨by omega, by omega⟩, rfl, (by first | rfl | ((repeat' split) <;> first | rfl | omega)), (by first | rfl | omega), trivial⟩

abbrev rm_J3_checkIndex_n : Room := { frames := 0, cells := 0, slots := 0, locals := 0 }
set_option maxHeartbeats 4000000 in
set_option maxRecDepth 100000 in
theorem c_J3_checkIndex_n (l : Launch) (hl9 : l.stackTraces = false) (N0 : Nat) (G : zz_G) (Y : zz_Y) (a : Nat → Nat) (S : zz_S) (x n : Int) (hx : 0 ≤ x ∧ x < n) (hn : n < 2147483648) : CtR l yJ3_checkIndex_8e157 wsJ3_checkIndex_8e157 rm_J3_checkIndex_n 0 [zz_v x, zz_v n, .null] N0 G Y a S (x) (S) (True) (False) (False) (False) := by
  refine Ct_.of (cc := cJ3_checkIndex_8e157) (maxL := 3) (ret := (some .int)) (by decide) rfl (Nat.le_of_ble_eq_true rfl) ?_
  intro p e s m args below meth c hC hts hr hlk hex hF
  have hK := hF.2.1
  refine gd_lveq (lv' := [(0, zz_v x), (1, zz_v n), (2, .null)]) rfl ?_
  refine gd_iload_n hC dJ3_checkIndex_8e157_0 rfl (j := 0) rfl ?_
  refine gd_if_lt hC dJ3_checkIndex_8e157_1 (tgt := 9) (by decide) ⟨by omega, by omega⟩ (fun c1 => (by omega)) (fun c1 => ?_)
  refine gd_iload_n hC dJ3_checkIndex_8e157_4 rfl (j := 0) rfl ?_
  refine gd_iload_n hC dJ3_checkIndex_8e157_5 rfl (j := 1) rfl ?_
  refine gd_icmp_lt hC dJ3_checkIndex_8e157_6 (tgt := 16) (by decide) ⟨by omega, by omega⟩ ⟨by omega, by omega⟩ (fun c2 => ?_) (fun c2 => (by omega))
  refine gd_iload_n hC dJ3_checkIndex_8e157_16 rfl (j := 0) rfl ?_
  exact gd_ireturn hC hr rfl hlk dJ3_checkIndex_8e157_17 (by decide) ⟨_, ⟨by omega, by omega⟩, rfl, (by first | rfl | ((repeat' split) <;> first | rfl | omega)), (by first | rfl | omega), trivial⟩

abbrev rm_J3_checkIndex_x : Room := { frames := 0, cells := 0, slots := 0, locals := 0 }
set_option maxHeartbeats 4000000 in
set_option maxRecDepth 100000 in
theorem c_J3_checkIndex_x (l : Launch) (hl9 : l.stackTraces = false) (N0 : Nat) (G : zz_G) (Y : zz_Y) (a : Nat → Nat) (S : zz_S) (tq : Nat) (x n : Int) (hx : 0 ≤ x ∧ x < n) (hn : n < 2147483648) : CtR l yJ3_checkIndex_8e157 wsJ3_checkIndex_8e157 rm_J3_checkIndex_x 0 [zz_v x, zz_v n, .ref tq] N0 G Y a S (x) (S) (True) (False) (False) (False) := by
  refine Ct_.of (cc := cJ3_checkIndex_8e157) (maxL := 3) (ret := (some .int)) (by decide) rfl (Nat.le_of_ble_eq_true rfl) ?_
  intro p e s m args below meth c hC hts hr hlk hex hF
  have hK := hF.2.1
  refine gd_lveq (lv' := [(0, zz_v x), (1, zz_v n), (2, .ref tq)]) rfl ?_
  refine gd_iload_n hC dJ3_checkIndex_8e157_0 rfl (j := 0) rfl ?_
  refine gd_if_lt hC dJ3_checkIndex_8e157_1 (tgt := 9) (by decide) ⟨by omega, by omega⟩ (fun c1 => (by omega)) (fun c1 => ?_)
  refine gd_iload_n hC dJ3_checkIndex_8e157_4 rfl (j := 0) rfl ?_
  refine gd_iload_n hC dJ3_checkIndex_8e157_5 rfl (j := 1) rfl ?_
  refine gd_icmp_lt hC dJ3_checkIndex_8e157_6 (tgt := 16) (by decide) ⟨by omega, by omega⟩ ⟨by omega, by omega⟩ (fun c2 => ?_) (fun c2 => (by omega))
  refine gd_iload_n hC dJ3_checkIndex_8e157_16 rfl (j := 0) rfl ?_
  exact gd_ireturn hC hr rfl hlk dJ3_checkIndex_8e157_17 (by decide) ⟨_, ⟨by omega, by omega⟩, rfl, (by first | rfl | ((repeat' split) <;> first | rfl | omega)), (by first | rfl | omega), trivial⟩

abbrev rm_J0_checkIndex_df160 : Room := { frames := 1, cells := 0, slots := 0, locals := 22 }
set_option maxHeartbeats 4000000 in
set_option maxRecDepth 100000 in
theorem c_J0_checkIndex_df160 (l : Launch) (hl9 : l.stackTraces = false) (N0 : Nat) (G : zz_G) (Y : zz_Y) (a : Nat → Nat) (S : zz_S) (x n : Int) (hx : 0 ≤ x ∧ x < n) (hn : n < 2147483648) : CtN l yJ0_checkIndex_df160 wsJ0_checkIndex_df160 rm_J0_checkIndex_df160 0 [zz_v x, zz_v n] N0 G Y a S (S) (True) (False) (False) (False) := by
  refine Ct_.of (cc := cJ0_checkIndex_df160) (maxL := 2) (ret := none) (by decide) rfl (Nat.le_of_ble_eq_true rfl) ?_
  intro p e s m args below meth c hC hts hr hlk hex hF
  have hK := hF.2.1
  have f1053 : (Cond.fieldLink RJ0 1053 "jdk/internal/util/Preconditions" "SIOOBE_FORMATTER" "Ljava/util/function/BiFunction;").before args s = true := hts _ (by decide +kernel)
  refine gd_lveq (lv' := [(0, zz_v x), (1, zz_v n)]) rfl ?_
  refine gd_iload_n hC dJ0_checkIndex_df160_0 rfl (j := 0) rfl ?_
  refine gd_iload_n hC dJ0_checkIndex_df160_1 rfl (j := 1) rfl ?_
  refine gd_sf hC hF f1053 dJ0_checkIndex_df160_2 ?_ (fun tq => ?_)
  · skip
    refine gd_callSR (As := [zz_v x, zz_v n, .null]) (rest := []) hC hF (fun hR => c_J3_checkIndex_n l hl9 N0 G Y a (S) x n (by omega) (by omega)) (va_cwS 3 hts gJ0_checkIndex_df160_J3_checkIndex_8e157 rfl rfl rfl (by decide +kernel) ⟨by decide, by decide⟩) rfl rfl (Nat.le_of_ble_eq_true rfl) dJ0_checkIndex_df160_5 ⟨by decide, by decide⟩ (fun E hx => zz_xn hx) (fun q1 q1r => ?_)
    obtain ⟨q1a, q1b⟩ := id q1r
    refine gd_pop hC dJ0_checkIndex_df160_8 rfl ?_
    exact gd_return hC hr hlk dJ0_checkIndex_df160_9 (by decide) ⟨rfl, (by first | rfl | ((repeat' split) <;> first | rfl | omega)), trivial⟩
  · skip
    refine gd_callSR (As := [zz_v x, zz_v n, .ref tq]) (rest := []) hC hF (fun hR => c_J3_checkIndex_x l hl9 N0 G Y a (S) tq x n (by omega) (by omega)) (va_cwS 3 hts gJ0_checkIndex_df160_J3_checkIndex_8e157 rfl rfl rfl (by decide +kernel) ⟨by decide, by decide⟩) rfl rfl (Nat.le_of_ble_eq_true rfl) dJ0_checkIndex_df160_5 ⟨by decide, by decide⟩ (fun E hx => zz_xn hx) (fun q2 q2r => ?_)
    obtain ⟨q2a, q2b⟩ := id q2r
    refine gd_pop hC dJ0_checkIndex_df160_8 rfl ?_
    exact gd_return hC hr hlk dJ0_checkIndex_df160_9 (by decide) ⟨rfl, (by first | rfl | ((repeat' split) <;> first | rfl | omega)), trivial⟩

abbrev rm_J1_charAt_3b067 : Room := { frames := 2, cells := 0, slots := 0, locals := 43 }
set_option maxHeartbeats 4000000 in
set_option maxRecDepth 100000 in
theorem c_J1_charAt_3b067 (l : Launch) (hl9 : l.stackTraces = false) (N0 : Nat) (G : zz_G) (Y : zz_Y) (a : Nat → Nat) (S : zz_S) (i : Nat) (hi4 : i < 4) (x : Int) (j : Nat) (hx : x = (j : Int)) (hj : j < zz_wl.getD i 0) (hch : 0 ≤ ((zz_wb.getD i []).getD j 0).toInt ∧ ((zz_wb.getD i []).getD j 0).toInt < 128) : CtR l yJ1_charAt_3b067 wsJ1_charAt_3b067 rm_J1_charAt_3b067 0 [.ref (Y.2 i), zz_v x] N0 G Y a S (((zz_wb.getD i []).getD j 0).toInt) (S) (True) (False) (False) (False) := by
  refine Ct_.of (cc := cJ1_charAt_3b067) (maxL := 2) (ret := (some .char)) (by decide) rfl (Nat.le_of_ble_eq_true rfl) ?_
  intro p e s m args below meth c hC hts hr hlk hex hF
  have hK := hF.2.1
  refine gd_lveq (lv' := [(0, .ref (Y.2 i)), (1, zz_v x)]) rfl ?_
  have hwl : zz_wl.getD i 0 < 8 := by rcases (show i = 0 ∨ i = 1 ∨ i = 2 ∨ i = 3 by omega) with rfl | rfl | rfl | rfl <;> decide
  refine gd_iload_n hC dJ1_charAt_3b067_0 rfl (j := 1) rfl ?_
  refine gd_aload_n hC dJ1_charAt_3b067_1 rfl (j := 0) rfl ?_
  refine gd_slen hC hF (i := i) (by omega) dJ1_charAt_3b067_2 ?_
  refine gd_callSN (As := [zz_v x, zz_v ((zz_wl.getD i 0 : Nat) : Int)]) (rest := []) hC hF (fun hR => c_J0_checkIndex_df160 l hl9 N0 G Y a (S) x ((zz_wl.getD i 0 : Nat) : Int) (by omega) (by omega)) (va_cwS 2 hts gJ1_charAt_3b067_J0_checkIndex_df160 rfl rfl rfl (by decide +kernel) ⟨by decide, by decide⟩) rfl rfl (Nat.le_of_ble_eq_true rfl) dJ1_charAt_3b067_3 ⟨by decide, by decide⟩ (fun E hx => zz_xn hx) (fun q1 => ?_)
  refine gd_aload_n hC dJ1_charAt_3b067_6 rfl (j := 0) rfl ?_
  refine gd_iload_n hC dJ1_charAt_3b067_7 rfl (j := 1) rfl ?_
  refine gd_sbal hC hF (i := i) (j := j) (by omega) hx hj dJ1_charAt_3b067_8 ?_
  refine gd_sipush hC dJ1_charAt_3b067_9 rfl ?_
  refine gd_iand255 hC ⟨by omega, by omega⟩ dJ1_charAt_3b067_12 ?_
  refine gd_i2c hC dJ1_charAt_3b067_13 ?_
  refine gd_top (y := ((zz_wb.getD i []).getD j 0).toInt) (Int.emod_eq_of_lt hch.1 (by omega)) ?_
  exact gd_ireturn hC hr (zz_ncV ⟨by omega, by omega⟩) hlk dJ1_charAt_3b067_14 (by decide) ⟨_, ⟨by omega, by omega⟩, rfl, (by first | rfl | ((repeat' split) <;> first | rfl | omega)), (by first | rfl | omega), trivial⟩

abbrev rm_J0_charAt_5068e : Room := { frames := 3, cells := 0, slots := 0, locals := 64 }
set_option maxHeartbeats 4000000 in
set_option maxRecDepth 100000 in
theorem c_J0_charAt_5068e (l : Launch) (hl9 : l.stackTraces = false) (N0 : Nat) (G : zz_G) (Y : zz_Y) (a : Nat → Nat) (S : zz_S) (i : Nat) (hi4 : i < 4) (x : Int) (j : Nat) (hx : x = (j : Int)) (hj : j < zz_wl.getD i 0) (hch : 0 ≤ ((zz_wb.getD i []).getD j 0).toInt ∧ ((zz_wb.getD i []).getD j 0).toInt < 128) : CtR l yJ0_charAt_5068e wsJ0_charAt_5068e rm_J0_charAt_5068e 0 [.ref (Y.1 i), zz_v x] N0 G Y a S (((zz_wb.getD i []).getD j 0).toInt) (S) (True) (False) (False) (False) := by
  refine Ct_.of (cc := cJ0_charAt_5068e) (maxL := 2) (ret := (some .char)) (by decide) rfl (Nat.le_of_ble_eq_true rfl) ?_
  intro p e s m args below meth c hC hts hr hlk hex hF
  have hK := hF.2.1
  have f9 : (Cond.fieldLink RJ0 9 "java/lang/String" "value" "[B").before args s = true := hts _ (by decide +kernel)
  refine gd_lveq (lv' := [(0, .ref (Y.1 i)), (1, zz_v x)]) rfl ?_
  have hwl : zz_wl.getD i 0 < 8 := by rcases (show i = 0 ∨ i = 1 ∨ i = 2 ∨ i = 3 by omega) with rfl | rfl | rfl | rfl <;> decide
  refine gd_aload_n hC dJ0_charAt_5068e_0 rfl (j := 0) rfl ?_
  refine gd_callTR (As := []) (rest := []) (i := i) hC hF (fun hR => c_J0_isLatin1_aae02 l hl9 N0 G Y a (S) i (by omega)) (cwV 0 hts gJ0_charAt_5068e_J0_isLatin1_aae02 rfl rfl rfl (by decide +kernel) ⟨by decide, by decide⟩) (by omega) rfl rfl (Nat.le_of_ble_eq_true rfl) dJ0_charAt_5068e_1 ⟨by decide, by decide⟩ (fun E hx => zz_xn hx) (fun q1 q1r => ?_)
  obtain ⟨q1a, q1b⟩ := id q1r
  refine gd_if_eq hC dJ0_charAt_5068e_4 (tgt := 16) (by decide) ⟨by decide, by decide⟩ (fun c2 => (by omega)) (fun c2 => ?_)
  refine gd_aload_n hC dJ0_charAt_5068e_7 rfl (j := 0) rfl ?_
  refine gd_strV hC hF (i := i) (by omega) f9 dJ0_charAt_5068e_8 ?_
  refine gd_iload_n hC dJ0_charAt_5068e_11 rfl (j := 1) rfl ?_
  refine gd_callSR (As := [.ref (Y.2 i), zz_v x]) (rest := []) hC hF (fun hR => c_J1_charAt_3b067 l hl9 N0 G Y a (S) i (by omega) x j hx hj hch) (va_cwS 2 hts gJ0_charAt_5068e_J1_charAt_3b067 rfl rfl rfl (by decide +kernel) ⟨by decide, by decide⟩) rfl rfl (Nat.le_of_ble_eq_true rfl) dJ0_charAt_5068e_12 ⟨by decide, by decide⟩ (fun E hx => zz_xn hx) (fun q3 q3r => ?_)
  obtain ⟨q3a, q3b⟩ := id q3r
  exact gd_ireturn hC hr (zz_ncV ⟨by omega, by omega⟩) hlk dJ0_charAt_5068e_15 (by decide) ⟨_, ⟨by omega, by omega⟩, rfl, (by first | rfl | ((repeat' split) <;> first | rfl | omega)), (by first | rfl | omega), trivial⟩

abbrev rm_X3_wordOf_0 : Room := { frames := 0, cells := 0, slots := 0, locals := 0 }
set_option maxHeartbeats 4000000 in
set_option maxRecDepth 100000 in
theorem c_X3_wordOf_0 (l : Launch) (hl9 : l.stackTraces = false) (N0 : Nat) (G : zz_G) (Y : zz_Y) (a : Nat → Nat) (S : zz_S)  : CtW l yX3_wordOf wsX3_wordOf rm_X3_wordOf_0 0 [zz_v 0] N0 G Y a S 0 := by
  refine Ct_.of (cc := cX3_wordOf) (maxL := 1) (ret := (some (.object "java/lang/String"))) (by decide) rfl (Nat.le_of_ble_eq_true rfl) ?_
  intro p e s m args below meth c hC hts hr hlk hex hF
  have hK := hF.2.1
  refine gd_lveq (lv' := [(0, zz_v 0)]) rfl ?_
  refine gd_iload_n hC dX3_wordOf_0 rfl (j := 0) rfl ?_
  refine gd_tableIn hC dX3_wordOf_1 0 rfl ⟨by decide, by decide⟩ (by decide) (by decide) rfl (tgt := 28) (by decide) ?_
  refine gd_ldcS hC hF (i := 0) rfl dX3_wordOf_28 ?_
  exact gd_areturn hC hr hlk dX3_wordOf_30 (by decide) ⟨rfl, rfl⟩

abbrev rm_X3_wordOf_1 : Room := { frames := 0, cells := 0, slots := 0, locals := 0 }
set_option maxHeartbeats 4000000 in
set_option maxRecDepth 100000 in
theorem c_X3_wordOf_1 (l : Launch) (hl9 : l.stackTraces = false) (N0 : Nat) (G : zz_G) (Y : zz_Y) (a : Nat → Nat) (S : zz_S)  : CtW l yX3_wordOf wsX3_wordOf rm_X3_wordOf_1 0 [zz_v 1] N0 G Y a S 1 := by
  refine Ct_.of (cc := cX3_wordOf) (maxL := 1) (ret := (some (.object "java/lang/String"))) (by decide) rfl (Nat.le_of_ble_eq_true rfl) ?_
  intro p e s m args below meth c hC hts hr hlk hex hF
  have hK := hF.2.1
  refine gd_lveq (lv' := [(0, zz_v 1)]) rfl ?_
  refine gd_iload_n hC dX3_wordOf_0 rfl (j := 0) rfl ?_
  refine gd_tableIn hC dX3_wordOf_1 1 rfl ⟨by decide, by decide⟩ (by decide) (by decide) rfl (tgt := 31) (by decide) ?_
  refine gd_ldcS hC hF (i := 1) rfl dX3_wordOf_31 ?_
  exact gd_areturn hC hr hlk dX3_wordOf_33 (by decide) ⟨rfl, rfl⟩

abbrev rm_X3_wordOf_2 : Room := { frames := 0, cells := 0, slots := 0, locals := 0 }
set_option maxHeartbeats 4000000 in
set_option maxRecDepth 100000 in
theorem c_X3_wordOf_2 (l : Launch) (hl9 : l.stackTraces = false) (N0 : Nat) (G : zz_G) (Y : zz_Y) (a : Nat → Nat) (S : zz_S)  : CtW l yX3_wordOf wsX3_wordOf rm_X3_wordOf_2 0 [zz_v 2] N0 G Y a S 2 := by
  refine Ct_.of (cc := cX3_wordOf) (maxL := 1) (ret := (some (.object "java/lang/String"))) (by decide) rfl (Nat.le_of_ble_eq_true rfl) ?_
  intro p e s m args below meth c hC hts hr hlk hex hF
  have hK := hF.2.1
  refine gd_lveq (lv' := [(0, zz_v 2)]) rfl ?_
  refine gd_iload_n hC dX3_wordOf_0 rfl (j := 0) rfl ?_
  refine gd_tableIn hC dX3_wordOf_1 2 rfl ⟨by decide, by decide⟩ (by decide) (by decide) rfl (tgt := 34) (by decide) ?_
  refine gd_ldcS hC hF (i := 2) rfl dX3_wordOf_34 ?_
  exact gd_areturn hC hr hlk dX3_wordOf_36 (by decide) ⟨rfl, rfl⟩

abbrev rm_X3_wordOf_3 : Room := { frames := 0, cells := 0, slots := 0, locals := 0 }
set_option maxHeartbeats 4000000 in
set_option maxRecDepth 100000 in
theorem c_X3_wordOf_3 (l : Launch) (hl9 : l.stackTraces = false) (N0 : Nat) (G : zz_G) (Y : zz_Y) (a : Nat → Nat) (S : zz_S)  : CtW l yX3_wordOf wsX3_wordOf rm_X3_wordOf_3 0 [zz_v 3] N0 G Y a S 3 := by
  refine Ct_.of (cc := cX3_wordOf) (maxL := 1) (ret := (some (.object "java/lang/String"))) (by decide) rfl (Nat.le_of_ble_eq_true rfl) ?_
  intro p e s m args below meth c hC hts hr hlk hex hF
  have hK := hF.2.1
  refine gd_lveq (lv' := [(0, zz_v 3)]) rfl ?_
  refine gd_iload_n hC dX3_wordOf_0 rfl (j := 0) rfl ?_
  refine gd_tableOut hC dX3_wordOf_1 ⟨by decide, by decide⟩ (by decide) (tgt := 37) (by decide) ?_
  refine gd_ldcS hC hF (i := 3) rfl dX3_wordOf_37 ?_
  exact gd_areturn hC hr hlk dX3_wordOf_39 (by decide) ⟨rfl, rfl⟩

abbrev rm_X3_isTyped_0 : Room := { frames := 4, cells := 0, slots := 0, locals := 85 }
set_option maxHeartbeats 4000000 in
set_option maxRecDepth 100000 in
theorem c_X3_isTyped_0 (l : Launch) (hl9 : l.stackTraces = false) (N0 : Nat) (G : zz_G) (Y : zz_Y) (a : Nat → Nat) (S : zz_S) (htc : 0 ≤ S 0 1 ∧ S 0 1 ≤ 7) : CtR l yX3_isTyped wsX3_isTyped rm_X3_isTyped_0 0 [.ref (a 0), .ref (Y.1 0)] N0 G Y a S (zz_mty (S 1) (S 0 1) 0) (S) (zz_mty (S 1) (S 0 1) 0 = 0 ∨ zz_mty (S 1) (S 0 1) 0 = 1) (False) (False) (False) := by
  refine Ct_.of (cc := cX3_isTyped) (maxL := 3) (ret := (some .boolean)) (by decide) rfl (Nat.le_of_ble_eq_true rfl) ?_
  intro p e s m args below meth c hC hts hr hlk hex hF
  have hK := hF.2.1
  have w3 : ∀ w ∈ u_ws RX3 TX3 11, w.before args s = true := fun w h => hts w (List.mem_cons_of_mem _ (List.mem_append_right _ h))
  have f9 : (Cond.fieldLink RX3 9 "Grievancehall" "typed" "[C").before args s = true := hts _ (by decide +kernel)
  have f48 : (Cond.fieldLink RX3 48 "Grievancehall" "typedCount" "I").before args s = true := hts _ (by decide +kernel)
  refine gd_lveq (lv' := [(0, .ref (a 0)), (1, .ref (Y.1 0))]) rfl ?_
  refine gd_aload_n hC dX3_isTyped_0 rfl (j := 1) rfl ?_
  refine gd_callTR (As := []) (rest := []) (i := 0) hC hF (fun hR => c_J0_length_8abf5 l hl9 N0 G Y a (S) 0 (by omega)) (cwV 0 hts gX3_isTyped_J0_length_8abf5 rfl rfl rfl (by decide +kernel) ⟨by decide, by decide⟩) (by omega) rfl rfl (Nat.le_of_ble_eq_true rfl) dX3_isTyped_1 ⟨by decide, by decide⟩ (fun E hx => zz_xn hx) (fun q1 q1r => ?_)
  obtain ⟨q1a, q1b⟩ := id q1r
  refine gd_top (y := 5) rfl ?_
  have q1n : zz_R (5) := q1r
  obtain ⟨q1na, q1nb⟩ := id q1n
  refine gd_aload_n hC dX3_isTyped_4 rfl (j := 0) rfl ?_
  refine gd_getI hC w3 hK (ci := 3) rfl (by decide) rfl 1 (by decide) rfl f48 rfl dX3_isTyped_5 (fun r2 => ?_)
  obtain ⟨r2a, r2b⟩ := id r2
  refine gd_icmp_eq hC dX3_isTyped_8 (tgt := 13) (by decide) ⟨by decide, by decide⟩ ⟨by omega, by omega⟩ (fun c3 => ?_) (fun c3 => ?_)
  · skip
    refine gd_iconst hC dX3_isTyped_13 ?_
    refine gd_istore_n hC dX3_isTyped_14 rfl (by decide) (lv' := [(2, zz_v 0), (0, .ref (a 0)), (1, .ref (Y.1 0))]) rfl ?_
    refine gd_iload_n hC dX3_isTyped_15 rfl (j := 0) rfl ?_
    refine gd_aload_n hC dX3_isTyped_16 rfl (j := 1) rfl ?_
    refine gd_getI hC w3 hK (ci := 3) rfl (by decide) rfl 1 (by decide) rfl f48 rfl dX3_isTyped_17 (fun r4 => ?_)
    obtain ⟨r4a, r4b⟩ := id r4
    refine gd_top (y := 5) (show S 0 1 = 5 by omega) ?_
    refine gd_icmp_ge hC dX3_isTyped_20 (tgt := 45) (by decide) ⟨by decide, by decide⟩ ⟨by decide, by decide⟩ (fun c5 => (by omega)) (fun c5 => ?_)
    refine gd_aload_n hC dX3_isTyped_23 rfl (j := 2) rfl ?_
    refine gd_iload_n hC dX3_isTyped_24 rfl (j := 0) rfl ?_
    refine gd_callTR (As := [zz_v 0]) (rest := []) (i := 0) hC hF (fun hR => c_J0_charAt_5068e l hl9 N0 G Y a (S) 0 (by omega) 0 0 rfl (by decide) (by decide)) (cwV 1 hts gX3_isTyped_J0_charAt_5068e rfl rfl rfl (by decide +kernel) ⟨by decide, by decide⟩) (by omega) rfl rfl (Nat.le_of_ble_eq_true rfl) dX3_isTyped_25 ⟨by decide, by decide⟩ (fun E hx => zz_xn hx) (fun q6 q6r => ?_)
    obtain ⟨q6a, q6b⟩ := id q6r
    refine gd_top (y := 100) rfl ?_
    have q6n : zz_R (100) := q6r
    obtain ⟨q6na, q6nb⟩ := id q6n
    refine gd_aload_n hC dX3_isTyped_28 rfl (j := 1) rfl ?_
    refine gd_getR hC w3 hK (ci := 3) rfl (by decide) rfl 0 (by decide) (j := 1) rfl f9 rfl dX3_isTyped_29 ?_
    refine gd_iload_n hC dX3_isTyped_32 rfl (j := 0) rfl ?_
    refine gd_cald hC hK (j := 0) rfl (by decide) rfl (by omega) (by decide) dX3_isTyped_33 (fun r7 => ?_)
    obtain ⟨r7a, r7b⟩ := id r7
    refine gd_icmp_eq hC dX3_isTyped_34 (tgt := 39) (by decide) ⟨by decide, by decide⟩ ⟨by omega, by omega⟩ (fun c8 => ?_) (fun c8 => ?_)
    · skip
      refine gd_iinc hC dX3_isTyped_39 (j := 0) rfl (y := 1) (by omega) (by decide) (lv' := [(2, zz_v 1), (0, .ref (a 0)), (1, .ref (Y.1 0))]) rfl ?_
      refine gd_goto hC dX3_isTyped_42 (tgt := 15) (by decide) ?_
      refine gd_iload_n hC dX3_isTyped_15 rfl (j := 0) rfl ?_
      refine gd_aload_n hC dX3_isTyped_16 rfl (j := 1) rfl ?_
      refine gd_getI hC w3 hK (ci := 3) rfl (by decide) rfl 1 (by decide) rfl f48 rfl dX3_isTyped_17 (fun r9 => ?_)
      obtain ⟨r9a, r9b⟩ := id r9
      refine gd_top (y := 5) (show S 0 1 = 5 by omega) ?_
      refine gd_icmp_ge hC dX3_isTyped_20 (tgt := 45) (by decide) ⟨by decide, by decide⟩ ⟨by decide, by decide⟩ (fun c10 => (by omega)) (fun c10 => ?_)
      refine gd_aload_n hC dX3_isTyped_23 rfl (j := 2) rfl ?_
      refine gd_iload_n hC dX3_isTyped_24 rfl (j := 0) rfl ?_
      refine gd_callTR (As := [zz_v 1]) (rest := []) (i := 0) hC hF (fun hR => c_J0_charAt_5068e l hl9 N0 G Y a (S) 0 (by omega) 1 1 rfl (by decide) (by decide)) (cwV 1 hts gX3_isTyped_J0_charAt_5068e rfl rfl rfl (by decide +kernel) ⟨by decide, by decide⟩) (by omega) rfl rfl (Nat.le_of_ble_eq_true rfl) dX3_isTyped_25 ⟨by decide, by decide⟩ (fun E hx => zz_xn hx) (fun q11 q11r => ?_)
      obtain ⟨q11a, q11b⟩ := id q11r
      refine gd_top (y := 101) rfl ?_
      have q11n : zz_R (101) := q11r
      obtain ⟨q11na, q11nb⟩ := id q11n
      refine gd_aload_n hC dX3_isTyped_28 rfl (j := 1) rfl ?_
      refine gd_getR hC w3 hK (ci := 3) rfl (by decide) rfl 0 (by decide) (j := 1) rfl f9 rfl dX3_isTyped_29 ?_
      refine gd_iload_n hC dX3_isTyped_32 rfl (j := 0) rfl ?_
      refine gd_cald hC hK (j := 1) rfl (by decide) rfl (by omega) (by decide) dX3_isTyped_33 (fun r12 => ?_)
      obtain ⟨r12a, r12b⟩ := id r12
      refine gd_icmp_eq hC dX3_isTyped_34 (tgt := 39) (by decide) ⟨by decide, by decide⟩ ⟨by omega, by omega⟩ (fun c13 => ?_) (fun c13 => ?_)
      · skip
        refine gd_iinc hC dX3_isTyped_39 (j := 0) rfl (y := 2) (by omega) (by decide) (lv' := [(2, zz_v 2), (0, .ref (a 0)), (1, .ref (Y.1 0))]) rfl ?_
        refine gd_goto hC dX3_isTyped_42 (tgt := 15) (by decide) ?_
        refine gd_iload_n hC dX3_isTyped_15 rfl (j := 0) rfl ?_
        refine gd_aload_n hC dX3_isTyped_16 rfl (j := 1) rfl ?_
        refine gd_getI hC w3 hK (ci := 3) rfl (by decide) rfl 1 (by decide) rfl f48 rfl dX3_isTyped_17 (fun r14 => ?_)
        obtain ⟨r14a, r14b⟩ := id r14
        refine gd_top (y := 5) (show S 0 1 = 5 by omega) ?_
        refine gd_icmp_ge hC dX3_isTyped_20 (tgt := 45) (by decide) ⟨by decide, by decide⟩ ⟨by decide, by decide⟩ (fun c15 => (by omega)) (fun c15 => ?_)
        refine gd_aload_n hC dX3_isTyped_23 rfl (j := 2) rfl ?_
        refine gd_iload_n hC dX3_isTyped_24 rfl (j := 0) rfl ?_
        refine gd_callTR (As := [zz_v 2]) (rest := []) (i := 0) hC hF (fun hR => c_J0_charAt_5068e l hl9 N0 G Y a (S) 0 (by omega) 2 2 rfl (by decide) (by decide)) (cwV 1 hts gX3_isTyped_J0_charAt_5068e rfl rfl rfl (by decide +kernel) ⟨by decide, by decide⟩) (by omega) rfl rfl (Nat.le_of_ble_eq_true rfl) dX3_isTyped_25 ⟨by decide, by decide⟩ (fun E hx => zz_xn hx) (fun q16 q16r => ?_)
        obtain ⟨q16a, q16b⟩ := id q16r
        refine gd_top (y := 108) rfl ?_
        have q16n : zz_R (108) := q16r
        obtain ⟨q16na, q16nb⟩ := id q16n
        refine gd_aload_n hC dX3_isTyped_28 rfl (j := 1) rfl ?_
        refine gd_getR hC w3 hK (ci := 3) rfl (by decide) rfl 0 (by decide) (j := 1) rfl f9 rfl dX3_isTyped_29 ?_
        refine gd_iload_n hC dX3_isTyped_32 rfl (j := 0) rfl ?_
        refine gd_cald hC hK (j := 2) rfl (by decide) rfl (by omega) (by decide) dX3_isTyped_33 (fun r17 => ?_)
        obtain ⟨r17a, r17b⟩ := id r17
        refine gd_icmp_eq hC dX3_isTyped_34 (tgt := 39) (by decide) ⟨by decide, by decide⟩ ⟨by omega, by omega⟩ (fun c18 => ?_) (fun c18 => ?_)
        · skip
          refine gd_iinc hC dX3_isTyped_39 (j := 0) rfl (y := 3) (by omega) (by decide) (lv' := [(2, zz_v 3), (0, .ref (a 0)), (1, .ref (Y.1 0))]) rfl ?_
          refine gd_goto hC dX3_isTyped_42 (tgt := 15) (by decide) ?_
          refine gd_iload_n hC dX3_isTyped_15 rfl (j := 0) rfl ?_
          refine gd_aload_n hC dX3_isTyped_16 rfl (j := 1) rfl ?_
          refine gd_getI hC w3 hK (ci := 3) rfl (by decide) rfl 1 (by decide) rfl f48 rfl dX3_isTyped_17 (fun r19 => ?_)
          obtain ⟨r19a, r19b⟩ := id r19
          refine gd_top (y := 5) (show S 0 1 = 5 by omega) ?_
          refine gd_icmp_ge hC dX3_isTyped_20 (tgt := 45) (by decide) ⟨by decide, by decide⟩ ⟨by decide, by decide⟩ (fun c20 => (by omega)) (fun c20 => ?_)
          refine gd_aload_n hC dX3_isTyped_23 rfl (j := 2) rfl ?_
          refine gd_iload_n hC dX3_isTyped_24 rfl (j := 0) rfl ?_
          refine gd_callTR (As := [zz_v 3]) (rest := []) (i := 0) hC hF (fun hR => c_J0_charAt_5068e l hl9 N0 G Y a (S) 0 (by omega) 3 3 rfl (by decide) (by decide)) (cwV 1 hts gX3_isTyped_J0_charAt_5068e rfl rfl rfl (by decide +kernel) ⟨by decide, by decide⟩) (by omega) rfl rfl (Nat.le_of_ble_eq_true rfl) dX3_isTyped_25 ⟨by decide, by decide⟩ (fun E hx => zz_xn hx) (fun q21 q21r => ?_)
          obtain ⟨q21a, q21b⟩ := id q21r
          refine gd_top (y := 97) rfl ?_
          have q21n : zz_R (97) := q21r
          obtain ⟨q21na, q21nb⟩ := id q21n
          refine gd_aload_n hC dX3_isTyped_28 rfl (j := 1) rfl ?_
          refine gd_getR hC w3 hK (ci := 3) rfl (by decide) rfl 0 (by decide) (j := 1) rfl f9 rfl dX3_isTyped_29 ?_
          refine gd_iload_n hC dX3_isTyped_32 rfl (j := 0) rfl ?_
          refine gd_cald hC hK (j := 3) rfl (by decide) rfl (by omega) (by decide) dX3_isTyped_33 (fun r22 => ?_)
          obtain ⟨r22a, r22b⟩ := id r22
          refine gd_icmp_eq hC dX3_isTyped_34 (tgt := 39) (by decide) ⟨by decide, by decide⟩ ⟨by omega, by omega⟩ (fun c23 => ?_) (fun c23 => ?_)
          · skip
            refine gd_iinc hC dX3_isTyped_39 (j := 0) rfl (y := 4) (by omega) (by decide) (lv' := [(2, zz_v 4), (0, .ref (a 0)), (1, .ref (Y.1 0))]) rfl ?_
            refine gd_goto hC dX3_isTyped_42 (tgt := 15) (by decide) ?_
            refine gd_iload_n hC dX3_isTyped_15 rfl (j := 0) rfl ?_
            refine gd_aload_n hC dX3_isTyped_16 rfl (j := 1) rfl ?_
            refine gd_getI hC w3 hK (ci := 3) rfl (by decide) rfl 1 (by decide) rfl f48 rfl dX3_isTyped_17 (fun r24 => ?_)
            obtain ⟨r24a, r24b⟩ := id r24
            refine gd_top (y := 5) (show S 0 1 = 5 by omega) ?_
            refine gd_icmp_ge hC dX3_isTyped_20 (tgt := 45) (by decide) ⟨by decide, by decide⟩ ⟨by decide, by decide⟩ (fun c25 => (by omega)) (fun c25 => ?_)
            refine gd_aload_n hC dX3_isTyped_23 rfl (j := 2) rfl ?_
            refine gd_iload_n hC dX3_isTyped_24 rfl (j := 0) rfl ?_
            refine gd_callTR (As := [zz_v 4]) (rest := []) (i := 0) hC hF (fun hR => c_J0_charAt_5068e l hl9 N0 G Y a (S) 0 (by omega) 4 4 rfl (by decide) (by decide)) (cwV 1 hts gX3_isTyped_J0_charAt_5068e rfl rfl rfl (by decide +kernel) ⟨by decide, by decide⟩) (by omega) rfl rfl (Nat.le_of_ble_eq_true rfl) dX3_isTyped_25 ⟨by decide, by decide⟩ (fun E hx => zz_xn hx) (fun q26 q26r => ?_)
            obtain ⟨q26a, q26b⟩ := id q26r
            refine gd_top (y := 121) rfl ?_
            have q26n : zz_R (121) := q26r
            obtain ⟨q26na, q26nb⟩ := id q26n
            refine gd_aload_n hC dX3_isTyped_28 rfl (j := 1) rfl ?_
            refine gd_getR hC w3 hK (ci := 3) rfl (by decide) rfl 0 (by decide) (j := 1) rfl f9 rfl dX3_isTyped_29 ?_
            refine gd_iload_n hC dX3_isTyped_32 rfl (j := 0) rfl ?_
            refine gd_cald hC hK (j := 4) rfl (by decide) rfl (by omega) (by decide) dX3_isTyped_33 (fun r27 => ?_)
            obtain ⟨r27a, r27b⟩ := id r27
            refine gd_icmp_eq hC dX3_isTyped_34 (tgt := 39) (by decide) ⟨by decide, by decide⟩ ⟨by omega, by omega⟩ (fun c28 => ?_) (fun c28 => ?_)
            · skip
              refine gd_iinc hC dX3_isTyped_39 (j := 0) rfl (y := 5) (by omega) (by decide) (lv' := [(2, zz_v 5), (0, .ref (a 0)), (1, .ref (Y.1 0))]) rfl ?_
              refine gd_goto hC dX3_isTyped_42 (tgt := 15) (by decide) ?_
              refine gd_iload_n hC dX3_isTyped_15 rfl (j := 0) rfl ?_
              refine gd_aload_n hC dX3_isTyped_16 rfl (j := 1) rfl ?_
              refine gd_getI hC w3 hK (ci := 3) rfl (by decide) rfl 1 (by decide) rfl f48 rfl dX3_isTyped_17 (fun r29 => ?_)
              obtain ⟨r29a, r29b⟩ := id r29
              refine gd_top (y := 5) (show S 0 1 = 5 by omega) ?_
              refine gd_icmp_ge hC dX3_isTyped_20 (tgt := 45) (by decide) ⟨by decide, by decide⟩ ⟨by decide, by decide⟩ (fun c30 => ?_) (fun c30 => (by omega))
              refine gd_iconst hC dX3_isTyped_45 ?_
              exact gd_ireturn hC hr (zz_nb (by omega)) hlk dX3_isTyped_46 (by decide) ⟨_, ⟨by decide, by decide⟩, rfl, (by first | rfl | ((repeat' split) <;> first | rfl | omega)), (by unfold zz_mty; omega), (zz_mty_01 _ _ _)⟩
            · skip
              refine gd_iconst hC dX3_isTyped_37 ?_
              exact gd_ireturn hC hr (zz_nb (by omega)) hlk dX3_isTyped_38 (by decide) ⟨_, ⟨by decide, by decide⟩, rfl, (by first | rfl | ((repeat' split) <;> first | rfl | omega)), (by unfold zz_mty; omega), (zz_mty_01 _ _ _)⟩
          · skip
            refine gd_iconst hC dX3_isTyped_37 ?_
            exact gd_ireturn hC hr (zz_nb (by omega)) hlk dX3_isTyped_38 (by decide) ⟨_, ⟨by decide, by decide⟩, rfl, (by first | rfl | ((repeat' split) <;> first | rfl | omega)), (by unfold zz_mty; omega), (zz_mty_01 _ _ _)⟩
        · skip
          refine gd_iconst hC dX3_isTyped_37 ?_
          exact gd_ireturn hC hr (zz_nb (by omega)) hlk dX3_isTyped_38 (by decide) ⟨_, ⟨by decide, by decide⟩, rfl, (by first | rfl | ((repeat' split) <;> first | rfl | omega)), (by unfold zz_mty; omega), (zz_mty_01 _ _ _)⟩
      · skip
        refine gd_iconst hC dX3_isTyped_37 ?_
        exact gd_ireturn hC hr (zz_nb (by omega)) hlk dX3_isTyped_38 (by decide) ⟨_, ⟨by decide, by decide⟩, rfl, (by first | rfl | ((repeat' split) <;> first | rfl | omega)), (by unfold zz_mty; omega), (zz_mty_01 _ _ _)⟩
    · skip
      refine gd_iconst hC dX3_isTyped_37 ?_
      exact gd_ireturn hC hr (zz_nb (by omega)) hlk dX3_isTyped_38 (by decide) ⟨_, ⟨by decide, by decide⟩, rfl, (by first | rfl | ((repeat' split) <;> first | rfl | omega)), (by unfold zz_mty; omega), (zz_mty_01 _ _ _)⟩
  · skip
    refine gd_iconst hC dX3_isTyped_11 ?_
    exact gd_ireturn hC hr (zz_nb (by omega)) hlk dX3_isTyped_12 (by decide) ⟨_, ⟨by decide, by decide⟩, rfl, (by first | rfl | ((repeat' split) <;> first | rfl | omega)), (by unfold zz_mty; omega), (zz_mty_01 _ _ _)⟩

abbrev rm_X3_isTyped_1 : Room := { frames := 4, cells := 0, slots := 0, locals := 85 }
set_option maxHeartbeats 4000000 in
set_option maxRecDepth 100000 in
theorem c_X3_isTyped_1 (l : Launch) (hl9 : l.stackTraces = false) (N0 : Nat) (G : zz_G) (Y : zz_Y) (a : Nat → Nat) (S : zz_S) (htc : 0 ≤ S 0 1 ∧ S 0 1 ≤ 7) : CtR l yX3_isTyped wsX3_isTyped rm_X3_isTyped_1 0 [.ref (a 0), .ref (Y.1 1)] N0 G Y a S (zz_mty (S 1) (S 0 1) 1) (S) (zz_mty (S 1) (S 0 1) 1 = 0 ∨ zz_mty (S 1) (S 0 1) 1 = 1) (False) (False) (False) := by
  refine Ct_.of (cc := cX3_isTyped) (maxL := 3) (ret := (some .boolean)) (by decide) rfl (Nat.le_of_ble_eq_true rfl) ?_
  intro p e s m args below meth c hC hts hr hlk hex hF
  have hK := hF.2.1
  have w3 : ∀ w ∈ u_ws RX3 TX3 11, w.before args s = true := fun w h => hts w (List.mem_cons_of_mem _ (List.mem_append_right _ h))
  have f9 : (Cond.fieldLink RX3 9 "Grievancehall" "typed" "[C").before args s = true := hts _ (by decide +kernel)
  have f48 : (Cond.fieldLink RX3 48 "Grievancehall" "typedCount" "I").before args s = true := hts _ (by decide +kernel)
  refine gd_lveq (lv' := [(0, .ref (a 0)), (1, .ref (Y.1 1))]) rfl ?_
  refine gd_aload_n hC dX3_isTyped_0 rfl (j := 1) rfl ?_
  refine gd_callTR (As := []) (rest := []) (i := 1) hC hF (fun hR => c_J0_length_8abf5 l hl9 N0 G Y a (S) 1 (by omega)) (cwV 0 hts gX3_isTyped_J0_length_8abf5 rfl rfl rfl (by decide +kernel) ⟨by decide, by decide⟩) (by omega) rfl rfl (Nat.le_of_ble_eq_true rfl) dX3_isTyped_1 ⟨by decide, by decide⟩ (fun E hx => zz_xn hx) (fun q1 q1r => ?_)
  obtain ⟨q1a, q1b⟩ := id q1r
  refine gd_top (y := 7) rfl ?_
  have q1n : zz_R (7) := q1r
  obtain ⟨q1na, q1nb⟩ := id q1n
  refine gd_aload_n hC dX3_isTyped_4 rfl (j := 0) rfl ?_
  refine gd_getI hC w3 hK (ci := 3) rfl (by decide) rfl 1 (by decide) rfl f48 rfl dX3_isTyped_5 (fun r2 => ?_)
  obtain ⟨r2a, r2b⟩ := id r2
  refine gd_icmp_eq hC dX3_isTyped_8 (tgt := 13) (by decide) ⟨by decide, by decide⟩ ⟨by omega, by omega⟩ (fun c3 => ?_) (fun c3 => ?_)
  · skip
    refine gd_iconst hC dX3_isTyped_13 ?_
    refine gd_istore_n hC dX3_isTyped_14 rfl (by decide) (lv' := [(2, zz_v 0), (0, .ref (a 0)), (1, .ref (Y.1 1))]) rfl ?_
    refine gd_iload_n hC dX3_isTyped_15 rfl (j := 0) rfl ?_
    refine gd_aload_n hC dX3_isTyped_16 rfl (j := 1) rfl ?_
    refine gd_getI hC w3 hK (ci := 3) rfl (by decide) rfl 1 (by decide) rfl f48 rfl dX3_isTyped_17 (fun r4 => ?_)
    obtain ⟨r4a, r4b⟩ := id r4
    refine gd_top (y := 7) (show S 0 1 = 7 by omega) ?_
    refine gd_icmp_ge hC dX3_isTyped_20 (tgt := 45) (by decide) ⟨by decide, by decide⟩ ⟨by decide, by decide⟩ (fun c5 => (by omega)) (fun c5 => ?_)
    refine gd_aload_n hC dX3_isTyped_23 rfl (j := 2) rfl ?_
    refine gd_iload_n hC dX3_isTyped_24 rfl (j := 0) rfl ?_
    refine gd_callTR (As := [zz_v 0]) (rest := []) (i := 1) hC hF (fun hR => c_J0_charAt_5068e l hl9 N0 G Y a (S) 1 (by omega) 0 0 rfl (by decide) (by decide)) (cwV 1 hts gX3_isTyped_J0_charAt_5068e rfl rfl rfl (by decide +kernel) ⟨by decide, by decide⟩) (by omega) rfl rfl (Nat.le_of_ble_eq_true rfl) dX3_isTyped_25 ⟨by decide, by decide⟩ (fun E hx => zz_xn hx) (fun q6 q6r => ?_)
    obtain ⟨q6a, q6b⟩ := id q6r
    refine gd_top (y := 112) rfl ?_
    have q6n : zz_R (112) := q6r
    obtain ⟨q6na, q6nb⟩ := id q6n
    refine gd_aload_n hC dX3_isTyped_28 rfl (j := 1) rfl ?_
    refine gd_getR hC w3 hK (ci := 3) rfl (by decide) rfl 0 (by decide) (j := 1) rfl f9 rfl dX3_isTyped_29 ?_
    refine gd_iload_n hC dX3_isTyped_32 rfl (j := 0) rfl ?_
    refine gd_cald hC hK (j := 0) rfl (by decide) rfl (by omega) (by decide) dX3_isTyped_33 (fun r7 => ?_)
    obtain ⟨r7a, r7b⟩ := id r7
    refine gd_icmp_eq hC dX3_isTyped_34 (tgt := 39) (by decide) ⟨by decide, by decide⟩ ⟨by omega, by omega⟩ (fun c8 => ?_) (fun c8 => ?_)
    · skip
      refine gd_iinc hC dX3_isTyped_39 (j := 0) rfl (y := 1) (by omega) (by decide) (lv' := [(2, zz_v 1), (0, .ref (a 0)), (1, .ref (Y.1 1))]) rfl ?_
      refine gd_goto hC dX3_isTyped_42 (tgt := 15) (by decide) ?_
      refine gd_iload_n hC dX3_isTyped_15 rfl (j := 0) rfl ?_
      refine gd_aload_n hC dX3_isTyped_16 rfl (j := 1) rfl ?_
      refine gd_getI hC w3 hK (ci := 3) rfl (by decide) rfl 1 (by decide) rfl f48 rfl dX3_isTyped_17 (fun r9 => ?_)
      obtain ⟨r9a, r9b⟩ := id r9
      refine gd_top (y := 7) (show S 0 1 = 7 by omega) ?_
      refine gd_icmp_ge hC dX3_isTyped_20 (tgt := 45) (by decide) ⟨by decide, by decide⟩ ⟨by decide, by decide⟩ (fun c10 => (by omega)) (fun c10 => ?_)
      refine gd_aload_n hC dX3_isTyped_23 rfl (j := 2) rfl ?_
      refine gd_iload_n hC dX3_isTyped_24 rfl (j := 0) rfl ?_
      refine gd_callTR (As := [zz_v 1]) (rest := []) (i := 1) hC hF (fun hR => c_J0_charAt_5068e l hl9 N0 G Y a (S) 1 (by omega) 1 1 rfl (by decide) (by decide)) (cwV 1 hts gX3_isTyped_J0_charAt_5068e rfl rfl rfl (by decide +kernel) ⟨by decide, by decide⟩) (by omega) rfl rfl (Nat.le_of_ble_eq_true rfl) dX3_isTyped_25 ⟨by decide, by decide⟩ (fun E hx => zz_xn hx) (fun q11 q11r => ?_)
      obtain ⟨q11a, q11b⟩ := id q11r
      refine gd_top (y := 114) rfl ?_
      have q11n : zz_R (114) := q11r
      obtain ⟨q11na, q11nb⟩ := id q11n
      refine gd_aload_n hC dX3_isTyped_28 rfl (j := 1) rfl ?_
      refine gd_getR hC w3 hK (ci := 3) rfl (by decide) rfl 0 (by decide) (j := 1) rfl f9 rfl dX3_isTyped_29 ?_
      refine gd_iload_n hC dX3_isTyped_32 rfl (j := 0) rfl ?_
      refine gd_cald hC hK (j := 1) rfl (by decide) rfl (by omega) (by decide) dX3_isTyped_33 (fun r12 => ?_)
      obtain ⟨r12a, r12b⟩ := id r12
      refine gd_icmp_eq hC dX3_isTyped_34 (tgt := 39) (by decide) ⟨by decide, by decide⟩ ⟨by omega, by omega⟩ (fun c13 => ?_) (fun c13 => ?_)
      · skip
        refine gd_iinc hC dX3_isTyped_39 (j := 0) rfl (y := 2) (by omega) (by decide) (lv' := [(2, zz_v 2), (0, .ref (a 0)), (1, .ref (Y.1 1))]) rfl ?_
        refine gd_goto hC dX3_isTyped_42 (tgt := 15) (by decide) ?_
        refine gd_iload_n hC dX3_isTyped_15 rfl (j := 0) rfl ?_
        refine gd_aload_n hC dX3_isTyped_16 rfl (j := 1) rfl ?_
        refine gd_getI hC w3 hK (ci := 3) rfl (by decide) rfl 1 (by decide) rfl f48 rfl dX3_isTyped_17 (fun r14 => ?_)
        obtain ⟨r14a, r14b⟩ := id r14
        refine gd_top (y := 7) (show S 0 1 = 7 by omega) ?_
        refine gd_icmp_ge hC dX3_isTyped_20 (tgt := 45) (by decide) ⟨by decide, by decide⟩ ⟨by decide, by decide⟩ (fun c15 => (by omega)) (fun c15 => ?_)
        refine gd_aload_n hC dX3_isTyped_23 rfl (j := 2) rfl ?_
        refine gd_iload_n hC dX3_isTyped_24 rfl (j := 0) rfl ?_
        refine gd_callTR (As := [zz_v 2]) (rest := []) (i := 1) hC hF (fun hR => c_J0_charAt_5068e l hl9 N0 G Y a (S) 1 (by omega) 2 2 rfl (by decide) (by decide)) (cwV 1 hts gX3_isTyped_J0_charAt_5068e rfl rfl rfl (by decide +kernel) ⟨by decide, by decide⟩) (by omega) rfl rfl (Nat.le_of_ble_eq_true rfl) dX3_isTyped_25 ⟨by decide, by decide⟩ (fun E hx => zz_xn hx) (fun q16 q16r => ?_)
        obtain ⟨q16a, q16b⟩ := id q16r
        refine gd_top (y := 111) rfl ?_
        have q16n : zz_R (111) := q16r
        obtain ⟨q16na, q16nb⟩ := id q16n
        refine gd_aload_n hC dX3_isTyped_28 rfl (j := 1) rfl ?_
        refine gd_getR hC w3 hK (ci := 3) rfl (by decide) rfl 0 (by decide) (j := 1) rfl f9 rfl dX3_isTyped_29 ?_
        refine gd_iload_n hC dX3_isTyped_32 rfl (j := 0) rfl ?_
        refine gd_cald hC hK (j := 2) rfl (by decide) rfl (by omega) (by decide) dX3_isTyped_33 (fun r17 => ?_)
        obtain ⟨r17a, r17b⟩ := id r17
        refine gd_icmp_eq hC dX3_isTyped_34 (tgt := 39) (by decide) ⟨by decide, by decide⟩ ⟨by omega, by omega⟩ (fun c18 => ?_) (fun c18 => ?_)
        · skip
          refine gd_iinc hC dX3_isTyped_39 (j := 0) rfl (y := 3) (by omega) (by decide) (lv' := [(2, zz_v 3), (0, .ref (a 0)), (1, .ref (Y.1 1))]) rfl ?_
          refine gd_goto hC dX3_isTyped_42 (tgt := 15) (by decide) ?_
          refine gd_iload_n hC dX3_isTyped_15 rfl (j := 0) rfl ?_
          refine gd_aload_n hC dX3_isTyped_16 rfl (j := 1) rfl ?_
          refine gd_getI hC w3 hK (ci := 3) rfl (by decide) rfl 1 (by decide) rfl f48 rfl dX3_isTyped_17 (fun r19 => ?_)
          obtain ⟨r19a, r19b⟩ := id r19
          refine gd_top (y := 7) (show S 0 1 = 7 by omega) ?_
          refine gd_icmp_ge hC dX3_isTyped_20 (tgt := 45) (by decide) ⟨by decide, by decide⟩ ⟨by decide, by decide⟩ (fun c20 => (by omega)) (fun c20 => ?_)
          refine gd_aload_n hC dX3_isTyped_23 rfl (j := 2) rfl ?_
          refine gd_iload_n hC dX3_isTyped_24 rfl (j := 0) rfl ?_
          refine gd_callTR (As := [zz_v 3]) (rest := []) (i := 1) hC hF (fun hR => c_J0_charAt_5068e l hl9 N0 G Y a (S) 1 (by omega) 3 3 rfl (by decide) (by decide)) (cwV 1 hts gX3_isTyped_J0_charAt_5068e rfl rfl rfl (by decide +kernel) ⟨by decide, by decide⟩) (by omega) rfl rfl (Nat.le_of_ble_eq_true rfl) dX3_isTyped_25 ⟨by decide, by decide⟩ (fun E hx => zz_xn hx) (fun q21 q21r => ?_)
          obtain ⟨q21a, q21b⟩ := id q21r
          refine gd_top (y := 109) rfl ?_
          have q21n : zz_R (109) := q21r
          obtain ⟨q21na, q21nb⟩ := id q21n
          refine gd_aload_n hC dX3_isTyped_28 rfl (j := 1) rfl ?_
          refine gd_getR hC w3 hK (ci := 3) rfl (by decide) rfl 0 (by decide) (j := 1) rfl f9 rfl dX3_isTyped_29 ?_
          refine gd_iload_n hC dX3_isTyped_32 rfl (j := 0) rfl ?_
          refine gd_cald hC hK (j := 3) rfl (by decide) rfl (by omega) (by decide) dX3_isTyped_33 (fun r22 => ?_)
          obtain ⟨r22a, r22b⟩ := id r22
          refine gd_icmp_eq hC dX3_isTyped_34 (tgt := 39) (by decide) ⟨by decide, by decide⟩ ⟨by omega, by omega⟩ (fun c23 => ?_) (fun c23 => ?_)
          · skip
            refine gd_iinc hC dX3_isTyped_39 (j := 0) rfl (y := 4) (by omega) (by decide) (lv' := [(2, zz_v 4), (0, .ref (a 0)), (1, .ref (Y.1 1))]) rfl ?_
            refine gd_goto hC dX3_isTyped_42 (tgt := 15) (by decide) ?_
            refine gd_iload_n hC dX3_isTyped_15 rfl (j := 0) rfl ?_
            refine gd_aload_n hC dX3_isTyped_16 rfl (j := 1) rfl ?_
            refine gd_getI hC w3 hK (ci := 3) rfl (by decide) rfl 1 (by decide) rfl f48 rfl dX3_isTyped_17 (fun r24 => ?_)
            obtain ⟨r24a, r24b⟩ := id r24
            refine gd_top (y := 7) (show S 0 1 = 7 by omega) ?_
            refine gd_icmp_ge hC dX3_isTyped_20 (tgt := 45) (by decide) ⟨by decide, by decide⟩ ⟨by decide, by decide⟩ (fun c25 => (by omega)) (fun c25 => ?_)
            refine gd_aload_n hC dX3_isTyped_23 rfl (j := 2) rfl ?_
            refine gd_iload_n hC dX3_isTyped_24 rfl (j := 0) rfl ?_
            refine gd_callTR (As := [zz_v 4]) (rest := []) (i := 1) hC hF (fun hR => c_J0_charAt_5068e l hl9 N0 G Y a (S) 1 (by omega) 4 4 rfl (by decide) (by decide)) (cwV 1 hts gX3_isTyped_J0_charAt_5068e rfl rfl rfl (by decide +kernel) ⟨by decide, by decide⟩) (by omega) rfl rfl (Nat.le_of_ble_eq_true rfl) dX3_isTyped_25 ⟨by decide, by decide⟩ (fun E hx => zz_xn hx) (fun q26 q26r => ?_)
            obtain ⟨q26a, q26b⟩ := id q26r
            refine gd_top (y := 105) rfl ?_
            have q26n : zz_R (105) := q26r
            obtain ⟨q26na, q26nb⟩ := id q26n
            refine gd_aload_n hC dX3_isTyped_28 rfl (j := 1) rfl ?_
            refine gd_getR hC w3 hK (ci := 3) rfl (by decide) rfl 0 (by decide) (j := 1) rfl f9 rfl dX3_isTyped_29 ?_
            refine gd_iload_n hC dX3_isTyped_32 rfl (j := 0) rfl ?_
            refine gd_cald hC hK (j := 4) rfl (by decide) rfl (by omega) (by decide) dX3_isTyped_33 (fun r27 => ?_)
            obtain ⟨r27a, r27b⟩ := id r27
            refine gd_icmp_eq hC dX3_isTyped_34 (tgt := 39) (by decide) ⟨by decide, by decide⟩ ⟨by omega, by omega⟩ (fun c28 => ?_) (fun c28 => ?_)
            · skip
              refine gd_iinc hC dX3_isTyped_39 (j := 0) rfl (y := 5) (by omega) (by decide) (lv' := [(2, zz_v 5), (0, .ref (a 0)), (1, .ref (Y.1 1))]) rfl ?_
              refine gd_goto hC dX3_isTyped_42 (tgt := 15) (by decide) ?_
              refine gd_iload_n hC dX3_isTyped_15 rfl (j := 0) rfl ?_
              refine gd_aload_n hC dX3_isTyped_16 rfl (j := 1) rfl ?_
              refine gd_getI hC w3 hK (ci := 3) rfl (by decide) rfl 1 (by decide) rfl f48 rfl dX3_isTyped_17 (fun r29 => ?_)
              obtain ⟨r29a, r29b⟩ := id r29
              refine gd_top (y := 7) (show S 0 1 = 7 by omega) ?_
              refine gd_icmp_ge hC dX3_isTyped_20 (tgt := 45) (by decide) ⟨by decide, by decide⟩ ⟨by decide, by decide⟩ (fun c30 => (by omega)) (fun c30 => ?_)
              refine gd_aload_n hC dX3_isTyped_23 rfl (j := 2) rfl ?_
              refine gd_iload_n hC dX3_isTyped_24 rfl (j := 0) rfl ?_
              refine gd_callTR (As := [zz_v 5]) (rest := []) (i := 1) hC hF (fun hR => c_J0_charAt_5068e l hl9 N0 G Y a (S) 1 (by omega) 5 5 rfl (by decide) (by decide)) (cwV 1 hts gX3_isTyped_J0_charAt_5068e rfl rfl rfl (by decide +kernel) ⟨by decide, by decide⟩) (by omega) rfl rfl (Nat.le_of_ble_eq_true rfl) dX3_isTyped_25 ⟨by decide, by decide⟩ (fun E hx => zz_xn hx) (fun q31 q31r => ?_)
              obtain ⟨q31a, q31b⟩ := id q31r
              refine gd_top (y := 115) rfl ?_
              have q31n : zz_R (115) := q31r
              obtain ⟨q31na, q31nb⟩ := id q31n
              refine gd_aload_n hC dX3_isTyped_28 rfl (j := 1) rfl ?_
              refine gd_getR hC w3 hK (ci := 3) rfl (by decide) rfl 0 (by decide) (j := 1) rfl f9 rfl dX3_isTyped_29 ?_
              refine gd_iload_n hC dX3_isTyped_32 rfl (j := 0) rfl ?_
              refine gd_cald hC hK (j := 5) rfl (by decide) rfl (by omega) (by decide) dX3_isTyped_33 (fun r32 => ?_)
              obtain ⟨r32a, r32b⟩ := id r32
              refine gd_icmp_eq hC dX3_isTyped_34 (tgt := 39) (by decide) ⟨by decide, by decide⟩ ⟨by omega, by omega⟩ (fun c33 => ?_) (fun c33 => ?_)
              · skip
                refine gd_iinc hC dX3_isTyped_39 (j := 0) rfl (y := 6) (by omega) (by decide) (lv' := [(2, zz_v 6), (0, .ref (a 0)), (1, .ref (Y.1 1))]) rfl ?_
                refine gd_goto hC dX3_isTyped_42 (tgt := 15) (by decide) ?_
                refine gd_iload_n hC dX3_isTyped_15 rfl (j := 0) rfl ?_
                refine gd_aload_n hC dX3_isTyped_16 rfl (j := 1) rfl ?_
                refine gd_getI hC w3 hK (ci := 3) rfl (by decide) rfl 1 (by decide) rfl f48 rfl dX3_isTyped_17 (fun r34 => ?_)
                obtain ⟨r34a, r34b⟩ := id r34
                refine gd_top (y := 7) (show S 0 1 = 7 by omega) ?_
                refine gd_icmp_ge hC dX3_isTyped_20 (tgt := 45) (by decide) ⟨by decide, by decide⟩ ⟨by decide, by decide⟩ (fun c35 => (by omega)) (fun c35 => ?_)
                refine gd_aload_n hC dX3_isTyped_23 rfl (j := 2) rfl ?_
                refine gd_iload_n hC dX3_isTyped_24 rfl (j := 0) rfl ?_
                refine gd_callTR (As := [zz_v 6]) (rest := []) (i := 1) hC hF (fun hR => c_J0_charAt_5068e l hl9 N0 G Y a (S) 1 (by omega) 6 6 rfl (by decide) (by decide)) (cwV 1 hts gX3_isTyped_J0_charAt_5068e rfl rfl rfl (by decide +kernel) ⟨by decide, by decide⟩) (by omega) rfl rfl (Nat.le_of_ble_eq_true rfl) dX3_isTyped_25 ⟨by decide, by decide⟩ (fun E hx => zz_xn hx) (fun q36 q36r => ?_)
                obtain ⟨q36a, q36b⟩ := id q36r
                refine gd_top (y := 101) rfl ?_
                have q36n : zz_R (101) := q36r
                obtain ⟨q36na, q36nb⟩ := id q36n
                refine gd_aload_n hC dX3_isTyped_28 rfl (j := 1) rfl ?_
                refine gd_getR hC w3 hK (ci := 3) rfl (by decide) rfl 0 (by decide) (j := 1) rfl f9 rfl dX3_isTyped_29 ?_
                refine gd_iload_n hC dX3_isTyped_32 rfl (j := 0) rfl ?_
                refine gd_cald hC hK (j := 6) rfl (by decide) rfl (by omega) (by decide) dX3_isTyped_33 (fun r37 => ?_)
                obtain ⟨r37a, r37b⟩ := id r37
                refine gd_icmp_eq hC dX3_isTyped_34 (tgt := 39) (by decide) ⟨by decide, by decide⟩ ⟨by omega, by omega⟩ (fun c38 => ?_) (fun c38 => ?_)
                · skip
                  refine gd_iinc hC dX3_isTyped_39 (j := 0) rfl (y := 7) (by omega) (by decide) (lv' := [(2, zz_v 7), (0, .ref (a 0)), (1, .ref (Y.1 1))]) rfl ?_
                  refine gd_goto hC dX3_isTyped_42 (tgt := 15) (by decide) ?_
                  refine gd_iload_n hC dX3_isTyped_15 rfl (j := 0) rfl ?_
                  refine gd_aload_n hC dX3_isTyped_16 rfl (j := 1) rfl ?_
                  refine gd_getI hC w3 hK (ci := 3) rfl (by decide) rfl 1 (by decide) rfl f48 rfl dX3_isTyped_17 (fun r39 => ?_)
                  obtain ⟨r39a, r39b⟩ := id r39
                  refine gd_top (y := 7) (show S 0 1 = 7 by omega) ?_
                  refine gd_icmp_ge hC dX3_isTyped_20 (tgt := 45) (by decide) ⟨by decide, by decide⟩ ⟨by decide, by decide⟩ (fun c40 => ?_) (fun c40 => (by omega))
                  refine gd_iconst hC dX3_isTyped_45 ?_
                  exact gd_ireturn hC hr (zz_nb (by omega)) hlk dX3_isTyped_46 (by decide) ⟨_, ⟨by decide, by decide⟩, rfl, (by first | rfl | ((repeat' split) <;> first | rfl | omega)), (by unfold zz_mty; omega), (zz_mty_01 _ _ _)⟩
                · skip
                  refine gd_iconst hC dX3_isTyped_37 ?_
                  exact gd_ireturn hC hr (zz_nb (by omega)) hlk dX3_isTyped_38 (by decide) ⟨_, ⟨by decide, by decide⟩, rfl, (by first | rfl | ((repeat' split) <;> first | rfl | omega)), (by unfold zz_mty; omega), (zz_mty_01 _ _ _)⟩
              · skip
                refine gd_iconst hC dX3_isTyped_37 ?_
                exact gd_ireturn hC hr (zz_nb (by omega)) hlk dX3_isTyped_38 (by decide) ⟨_, ⟨by decide, by decide⟩, rfl, (by first | rfl | ((repeat' split) <;> first | rfl | omega)), (by unfold zz_mty; omega), (zz_mty_01 _ _ _)⟩
            · skip
              refine gd_iconst hC dX3_isTyped_37 ?_
              exact gd_ireturn hC hr (zz_nb (by omega)) hlk dX3_isTyped_38 (by decide) ⟨_, ⟨by decide, by decide⟩, rfl, (by first | rfl | ((repeat' split) <;> first | rfl | omega)), (by unfold zz_mty; omega), (zz_mty_01 _ _ _)⟩
          · skip
            refine gd_iconst hC dX3_isTyped_37 ?_
            exact gd_ireturn hC hr (zz_nb (by omega)) hlk dX3_isTyped_38 (by decide) ⟨_, ⟨by decide, by decide⟩, rfl, (by first | rfl | ((repeat' split) <;> first | rfl | omega)), (by unfold zz_mty; omega), (zz_mty_01 _ _ _)⟩
        · skip
          refine gd_iconst hC dX3_isTyped_37 ?_
          exact gd_ireturn hC hr (zz_nb (by omega)) hlk dX3_isTyped_38 (by decide) ⟨_, ⟨by decide, by decide⟩, rfl, (by first | rfl | ((repeat' split) <;> first | rfl | omega)), (by unfold zz_mty; omega), (zz_mty_01 _ _ _)⟩
      · skip
        refine gd_iconst hC dX3_isTyped_37 ?_
        exact gd_ireturn hC hr (zz_nb (by omega)) hlk dX3_isTyped_38 (by decide) ⟨_, ⟨by decide, by decide⟩, rfl, (by first | rfl | ((repeat' split) <;> first | rfl | omega)), (by unfold zz_mty; omega), (zz_mty_01 _ _ _)⟩
    · skip
      refine gd_iconst hC dX3_isTyped_37 ?_
      exact gd_ireturn hC hr (zz_nb (by omega)) hlk dX3_isTyped_38 (by decide) ⟨_, ⟨by decide, by decide⟩, rfl, (by first | rfl | ((repeat' split) <;> first | rfl | omega)), (by unfold zz_mty; omega), (zz_mty_01 _ _ _)⟩
  · skip
    refine gd_iconst hC dX3_isTyped_11 ?_
    exact gd_ireturn hC hr (zz_nb (by omega)) hlk dX3_isTyped_12 (by decide) ⟨_, ⟨by decide, by decide⟩, rfl, (by first | rfl | ((repeat' split) <;> first | rfl | omega)), (by unfold zz_mty; omega), (zz_mty_01 _ _ _)⟩

abbrev rm_X3_isTyped_2 : Room := { frames := 4, cells := 0, slots := 0, locals := 85 }
set_option maxHeartbeats 4000000 in
set_option maxRecDepth 100000 in
theorem c_X3_isTyped_2 (l : Launch) (hl9 : l.stackTraces = false) (N0 : Nat) (G : zz_G) (Y : zz_Y) (a : Nat → Nat) (S : zz_S) (htc : 0 ≤ S 0 1 ∧ S 0 1 ≤ 7) : CtR l yX3_isTyped wsX3_isTyped rm_X3_isTyped_2 0 [.ref (a 0), .ref (Y.1 2)] N0 G Y a S (zz_mty (S 1) (S 0 1) 2) (S) (zz_mty (S 1) (S 0 1) 2 = 0 ∨ zz_mty (S 1) (S 0 1) 2 = 1) (False) (False) (False) := by
  refine Ct_.of (cc := cX3_isTyped) (maxL := 3) (ret := (some .boolean)) (by decide) rfl (Nat.le_of_ble_eq_true rfl) ?_
  intro p e s m args below meth c hC hts hr hlk hex hF
  have hK := hF.2.1
  have w3 : ∀ w ∈ u_ws RX3 TX3 11, w.before args s = true := fun w h => hts w (List.mem_cons_of_mem _ (List.mem_append_right _ h))
  have f9 : (Cond.fieldLink RX3 9 "Grievancehall" "typed" "[C").before args s = true := hts _ (by decide +kernel)
  have f48 : (Cond.fieldLink RX3 48 "Grievancehall" "typedCount" "I").before args s = true := hts _ (by decide +kernel)
  refine gd_lveq (lv' := [(0, .ref (a 0)), (1, .ref (Y.1 2))]) rfl ?_
  refine gd_aload_n hC dX3_isTyped_0 rfl (j := 1) rfl ?_
  refine gd_callTR (As := []) (rest := []) (i := 2) hC hF (fun hR => c_J0_length_8abf5 l hl9 N0 G Y a (S) 2 (by omega)) (cwV 0 hts gX3_isTyped_J0_length_8abf5 rfl rfl rfl (by decide +kernel) ⟨by decide, by decide⟩) (by omega) rfl rfl (Nat.le_of_ble_eq_true rfl) dX3_isTyped_1 ⟨by decide, by decide⟩ (fun E hx => zz_xn hx) (fun q1 q1r => ?_)
  obtain ⟨q1a, q1b⟩ := id q1r
  refine gd_top (y := 4) rfl ?_
  have q1n : zz_R (4) := q1r
  obtain ⟨q1na, q1nb⟩ := id q1n
  refine gd_aload_n hC dX3_isTyped_4 rfl (j := 0) rfl ?_
  refine gd_getI hC w3 hK (ci := 3) rfl (by decide) rfl 1 (by decide) rfl f48 rfl dX3_isTyped_5 (fun r2 => ?_)
  obtain ⟨r2a, r2b⟩ := id r2
  refine gd_icmp_eq hC dX3_isTyped_8 (tgt := 13) (by decide) ⟨by decide, by decide⟩ ⟨by omega, by omega⟩ (fun c3 => ?_) (fun c3 => ?_)
  · skip
    refine gd_iconst hC dX3_isTyped_13 ?_
    refine gd_istore_n hC dX3_isTyped_14 rfl (by decide) (lv' := [(2, zz_v 0), (0, .ref (a 0)), (1, .ref (Y.1 2))]) rfl ?_
    refine gd_iload_n hC dX3_isTyped_15 rfl (j := 0) rfl ?_
    refine gd_aload_n hC dX3_isTyped_16 rfl (j := 1) rfl ?_
    refine gd_getI hC w3 hK (ci := 3) rfl (by decide) rfl 1 (by decide) rfl f48 rfl dX3_isTyped_17 (fun r4 => ?_)
    obtain ⟨r4a, r4b⟩ := id r4
    refine gd_top (y := 4) (show S 0 1 = 4 by omega) ?_
    refine gd_icmp_ge hC dX3_isTyped_20 (tgt := 45) (by decide) ⟨by decide, by decide⟩ ⟨by decide, by decide⟩ (fun c5 => (by omega)) (fun c5 => ?_)
    refine gd_aload_n hC dX3_isTyped_23 rfl (j := 2) rfl ?_
    refine gd_iload_n hC dX3_isTyped_24 rfl (j := 0) rfl ?_
    refine gd_callTR (As := [zz_v 0]) (rest := []) (i := 2) hC hF (fun hR => c_J0_charAt_5068e l hl9 N0 G Y a (S) 2 (by omega) 0 0 rfl (by decide) (by decide)) (cwV 1 hts gX3_isTyped_J0_charAt_5068e rfl rfl rfl (by decide +kernel) ⟨by decide, by decide⟩) (by omega) rfl rfl (Nat.le_of_ble_eq_true rfl) dX3_isTyped_25 ⟨by decide, by decide⟩ (fun E hx => zz_xn hx) (fun q6 q6r => ?_)
    obtain ⟨q6a, q6b⟩ := id q6r
    refine gd_top (y := 114) rfl ?_
    have q6n : zz_R (114) := q6r
    obtain ⟨q6na, q6nb⟩ := id q6n
    refine gd_aload_n hC dX3_isTyped_28 rfl (j := 1) rfl ?_
    refine gd_getR hC w3 hK (ci := 3) rfl (by decide) rfl 0 (by decide) (j := 1) rfl f9 rfl dX3_isTyped_29 ?_
    refine gd_iload_n hC dX3_isTyped_32 rfl (j := 0) rfl ?_
    refine gd_cald hC hK (j := 0) rfl (by decide) rfl (by omega) (by decide) dX3_isTyped_33 (fun r7 => ?_)
    obtain ⟨r7a, r7b⟩ := id r7
    refine gd_icmp_eq hC dX3_isTyped_34 (tgt := 39) (by decide) ⟨by decide, by decide⟩ ⟨by omega, by omega⟩ (fun c8 => ?_) (fun c8 => ?_)
    · skip
      refine gd_iinc hC dX3_isTyped_39 (j := 0) rfl (y := 1) (by omega) (by decide) (lv' := [(2, zz_v 1), (0, .ref (a 0)), (1, .ref (Y.1 2))]) rfl ?_
      refine gd_goto hC dX3_isTyped_42 (tgt := 15) (by decide) ?_
      refine gd_iload_n hC dX3_isTyped_15 rfl (j := 0) rfl ?_
      refine gd_aload_n hC dX3_isTyped_16 rfl (j := 1) rfl ?_
      refine gd_getI hC w3 hK (ci := 3) rfl (by decide) rfl 1 (by decide) rfl f48 rfl dX3_isTyped_17 (fun r9 => ?_)
      obtain ⟨r9a, r9b⟩ := id r9
      refine gd_top (y := 4) (show S 0 1 = 4 by omega) ?_
      refine gd_icmp_ge hC dX3_isTyped_20 (tgt := 45) (by decide) ⟨by decide, by decide⟩ ⟨by decide, by decide⟩ (fun c10 => (by omega)) (fun c10 => ?_)
      refine gd_aload_n hC dX3_isTyped_23 rfl (j := 2) rfl ?_
      refine gd_iload_n hC dX3_isTyped_24 rfl (j := 0) rfl ?_
      refine gd_callTR (As := [zz_v 1]) (rest := []) (i := 2) hC hF (fun hR => c_J0_charAt_5068e l hl9 N0 G Y a (S) 2 (by omega) 1 1 rfl (by decide) (by decide)) (cwV 1 hts gX3_isTyped_J0_charAt_5068e rfl rfl rfl (by decide +kernel) ⟨by decide, by decide⟩) (by omega) rfl rfl (Nat.le_of_ble_eq_true rfl) dX3_isTyped_25 ⟨by decide, by decide⟩ (fun E hx => zz_xn hx) (fun q11 q11r => ?_)
      obtain ⟨q11a, q11b⟩ := id q11r
      refine gd_top (y := 117) rfl ?_
      have q11n : zz_R (117) := q11r
      obtain ⟨q11na, q11nb⟩ := id q11n
      refine gd_aload_n hC dX3_isTyped_28 rfl (j := 1) rfl ?_
      refine gd_getR hC w3 hK (ci := 3) rfl (by decide) rfl 0 (by decide) (j := 1) rfl f9 rfl dX3_isTyped_29 ?_
      refine gd_iload_n hC dX3_isTyped_32 rfl (j := 0) rfl ?_
      refine gd_cald hC hK (j := 1) rfl (by decide) rfl (by omega) (by decide) dX3_isTyped_33 (fun r12 => ?_)
      obtain ⟨r12a, r12b⟩ := id r12
      refine gd_icmp_eq hC dX3_isTyped_34 (tgt := 39) (by decide) ⟨by decide, by decide⟩ ⟨by omega, by omega⟩ (fun c13 => ?_) (fun c13 => ?_)
      · skip
        refine gd_iinc hC dX3_isTyped_39 (j := 0) rfl (y := 2) (by omega) (by decide) (lv' := [(2, zz_v 2), (0, .ref (a 0)), (1, .ref (Y.1 2))]) rfl ?_
        refine gd_goto hC dX3_isTyped_42 (tgt := 15) (by decide) ?_
        refine gd_iload_n hC dX3_isTyped_15 rfl (j := 0) rfl ?_
        refine gd_aload_n hC dX3_isTyped_16 rfl (j := 1) rfl ?_
        refine gd_getI hC w3 hK (ci := 3) rfl (by decide) rfl 1 (by decide) rfl f48 rfl dX3_isTyped_17 (fun r14 => ?_)
        obtain ⟨r14a, r14b⟩ := id r14
        refine gd_top (y := 4) (show S 0 1 = 4 by omega) ?_
        refine gd_icmp_ge hC dX3_isTyped_20 (tgt := 45) (by decide) ⟨by decide, by decide⟩ ⟨by decide, by decide⟩ (fun c15 => (by omega)) (fun c15 => ?_)
        refine gd_aload_n hC dX3_isTyped_23 rfl (j := 2) rfl ?_
        refine gd_iload_n hC dX3_isTyped_24 rfl (j := 0) rfl ?_
        refine gd_callTR (As := [zz_v 2]) (rest := []) (i := 2) hC hF (fun hR => c_J0_charAt_5068e l hl9 N0 G Y a (S) 2 (by omega) 2 2 rfl (by decide) (by decide)) (cwV 1 hts gX3_isTyped_J0_charAt_5068e rfl rfl rfl (by decide +kernel) ⟨by decide, by decide⟩) (by omega) rfl rfl (Nat.le_of_ble_eq_true rfl) dX3_isTyped_25 ⟨by decide, by decide⟩ (fun E hx => zz_xn hx) (fun q16 q16r => ?_)
        obtain ⟨q16a, q16b⟩ := id q16r
        refine gd_top (y := 108) rfl ?_
        have q16n : zz_R (108) := q16r
        obtain ⟨q16na, q16nb⟩ := id q16n
        refine gd_aload_n hC dX3_isTyped_28 rfl (j := 1) rfl ?_
        refine gd_getR hC w3 hK (ci := 3) rfl (by decide) rfl 0 (by decide) (j := 1) rfl f9 rfl dX3_isTyped_29 ?_
        refine gd_iload_n hC dX3_isTyped_32 rfl (j := 0) rfl ?_
        refine gd_cald hC hK (j := 2) rfl (by decide) rfl (by omega) (by decide) dX3_isTyped_33 (fun r17 => ?_)
        obtain ⟨r17a, r17b⟩ := id r17
        refine gd_icmp_eq hC dX3_isTyped_34 (tgt := 39) (by decide) ⟨by decide, by decide⟩ ⟨by omega, by omega⟩ (fun c18 => ?_) (fun c18 => ?_)
        · skip
          refine gd_iinc hC dX3_isTyped_39 (j := 0) rfl (y := 3) (by omega) (by decide) (lv' := [(2, zz_v 3), (0, .ref (a 0)), (1, .ref (Y.1 2))]) rfl ?_
          refine gd_goto hC dX3_isTyped_42 (tgt := 15) (by decide) ?_
          refine gd_iload_n hC dX3_isTyped_15 rfl (j := 0) rfl ?_
          refine gd_aload_n hC dX3_isTyped_16 rfl (j := 1) rfl ?_
          refine gd_getI hC w3 hK (ci := 3) rfl (by decide) rfl 1 (by decide) rfl f48 rfl dX3_isTyped_17 (fun r19 => ?_)
          obtain ⟨r19a, r19b⟩ := id r19
          refine gd_top (y := 4) (show S 0 1 = 4 by omega) ?_
          refine gd_icmp_ge hC dX3_isTyped_20 (tgt := 45) (by decide) ⟨by decide, by decide⟩ ⟨by decide, by decide⟩ (fun c20 => (by omega)) (fun c20 => ?_)
          refine gd_aload_n hC dX3_isTyped_23 rfl (j := 2) rfl ?_
          refine gd_iload_n hC dX3_isTyped_24 rfl (j := 0) rfl ?_
          refine gd_callTR (As := [zz_v 3]) (rest := []) (i := 2) hC hF (fun hR => c_J0_charAt_5068e l hl9 N0 G Y a (S) 2 (by omega) 3 3 rfl (by decide) (by decide)) (cwV 1 hts gX3_isTyped_J0_charAt_5068e rfl rfl rfl (by decide +kernel) ⟨by decide, by decide⟩) (by omega) rfl rfl (Nat.le_of_ble_eq_true rfl) dX3_isTyped_25 ⟨by decide, by decide⟩ (fun E hx => zz_xn hx) (fun q21 q21r => ?_)
          obtain ⟨q21a, q21b⟩ := id q21r
          refine gd_top (y := 101) rfl ?_
          have q21n : zz_R (101) := q21r
          obtain ⟨q21na, q21nb⟩ := id q21n
          refine gd_aload_n hC dX3_isTyped_28 rfl (j := 1) rfl ?_
          refine gd_getR hC w3 hK (ci := 3) rfl (by decide) rfl 0 (by decide) (j := 1) rfl f9 rfl dX3_isTyped_29 ?_
          refine gd_iload_n hC dX3_isTyped_32 rfl (j := 0) rfl ?_
          refine gd_cald hC hK (j := 3) rfl (by decide) rfl (by omega) (by decide) dX3_isTyped_33 (fun r22 => ?_)
          obtain ⟨r22a, r22b⟩ := id r22
          refine gd_icmp_eq hC dX3_isTyped_34 (tgt := 39) (by decide) ⟨by decide, by decide⟩ ⟨by omega, by omega⟩ (fun c23 => ?_) (fun c23 => ?_)
          · skip
            refine gd_iinc hC dX3_isTyped_39 (j := 0) rfl (y := 4) (by omega) (by decide) (lv' := [(2, zz_v 4), (0, .ref (a 0)), (1, .ref (Y.1 2))]) rfl ?_
            refine gd_goto hC dX3_isTyped_42 (tgt := 15) (by decide) ?_
            refine gd_iload_n hC dX3_isTyped_15 rfl (j := 0) rfl ?_
            refine gd_aload_n hC dX3_isTyped_16 rfl (j := 1) rfl ?_
            refine gd_getI hC w3 hK (ci := 3) rfl (by decide) rfl 1 (by decide) rfl f48 rfl dX3_isTyped_17 (fun r24 => ?_)
            obtain ⟨r24a, r24b⟩ := id r24
            refine gd_top (y := 4) (show S 0 1 = 4 by omega) ?_
            refine gd_icmp_ge hC dX3_isTyped_20 (tgt := 45) (by decide) ⟨by decide, by decide⟩ ⟨by decide, by decide⟩ (fun c25 => ?_) (fun c25 => (by omega))
            refine gd_iconst hC dX3_isTyped_45 ?_
            exact gd_ireturn hC hr (zz_nb (by omega)) hlk dX3_isTyped_46 (by decide) ⟨_, ⟨by decide, by decide⟩, rfl, (by first | rfl | ((repeat' split) <;> first | rfl | omega)), (by unfold zz_mty; omega), (zz_mty_01 _ _ _)⟩
          · skip
            refine gd_iconst hC dX3_isTyped_37 ?_
            exact gd_ireturn hC hr (zz_nb (by omega)) hlk dX3_isTyped_38 (by decide) ⟨_, ⟨by decide, by decide⟩, rfl, (by first | rfl | ((repeat' split) <;> first | rfl | omega)), (by unfold zz_mty; omega), (zz_mty_01 _ _ _)⟩
        · skip
          refine gd_iconst hC dX3_isTyped_37 ?_
          exact gd_ireturn hC hr (zz_nb (by omega)) hlk dX3_isTyped_38 (by decide) ⟨_, ⟨by decide, by decide⟩, rfl, (by first | rfl | ((repeat' split) <;> first | rfl | omega)), (by unfold zz_mty; omega), (zz_mty_01 _ _ _)⟩
      · skip
        refine gd_iconst hC dX3_isTyped_37 ?_
        exact gd_ireturn hC hr (zz_nb (by omega)) hlk dX3_isTyped_38 (by decide) ⟨_, ⟨by decide, by decide⟩, rfl, (by first | rfl | ((repeat' split) <;> first | rfl | omega)), (by unfold zz_mty; omega), (zz_mty_01 _ _ _)⟩
    · skip
      refine gd_iconst hC dX3_isTyped_37 ?_
      exact gd_ireturn hC hr (zz_nb (by omega)) hlk dX3_isTyped_38 (by decide) ⟨_, ⟨by decide, by decide⟩, rfl, (by first | rfl | ((repeat' split) <;> first | rfl | omega)), (by unfold zz_mty; omega), (zz_mty_01 _ _ _)⟩
  · skip
    refine gd_iconst hC dX3_isTyped_11 ?_
    exact gd_ireturn hC hr (zz_nb (by omega)) hlk dX3_isTyped_12 (by decide) ⟨_, ⟨by decide, by decide⟩, rfl, (by first | rfl | ((repeat' split) <;> first | rfl | omega)), (by unfold zz_mty; omega), (zz_mty_01 _ _ _)⟩

abbrev rm_X3_isTyped_3 : Room := { frames := 4, cells := 0, slots := 0, locals := 85 }
set_option maxHeartbeats 4000000 in
set_option maxRecDepth 100000 in
theorem c_X3_isTyped_3 (l : Launch) (hl9 : l.stackTraces = false) (N0 : Nat) (G : zz_G) (Y : zz_Y) (a : Nat → Nat) (S : zz_S) (htc : 0 ≤ S 0 1 ∧ S 0 1 ≤ 7) : CtR l yX3_isTyped wsX3_isTyped rm_X3_isTyped_3 0 [.ref (a 0), .ref (Y.1 3)] N0 G Y a S (zz_mty (S 1) (S 0 1) 3) (S) (zz_mty (S 1) (S 0 1) 3 = 0 ∨ zz_mty (S 1) (S 0 1) 3 = 1) (False) (False) (False) := by
  refine Ct_.of (cc := cX3_isTyped) (maxL := 3) (ret := (some .boolean)) (by decide) rfl (Nat.le_of_ble_eq_true rfl) ?_
  intro p e s m args below meth c hC hts hr hlk hex hF
  have hK := hF.2.1
  have w3 : ∀ w ∈ u_ws RX3 TX3 11, w.before args s = true := fun w h => hts w (List.mem_cons_of_mem _ (List.mem_append_right _ h))
  have f9 : (Cond.fieldLink RX3 9 "Grievancehall" "typed" "[C").before args s = true := hts _ (by decide +kernel)
  have f48 : (Cond.fieldLink RX3 48 "Grievancehall" "typedCount" "I").before args s = true := hts _ (by decide +kernel)
  refine gd_lveq (lv' := [(0, .ref (a 0)), (1, .ref (Y.1 3))]) rfl ?_
  refine gd_aload_n hC dX3_isTyped_0 rfl (j := 1) rfl ?_
  refine gd_callTR (As := []) (rest := []) (i := 3) hC hF (fun hR => c_J0_length_8abf5 l hl9 N0 G Y a (S) 3 (by omega)) (cwV 0 hts gX3_isTyped_J0_length_8abf5 rfl rfl rfl (by decide +kernel) ⟨by decide, by decide⟩) (by omega) rfl rfl (Nat.le_of_ble_eq_true rfl) dX3_isTyped_1 ⟨by decide, by decide⟩ (fun E hx => zz_xn hx) (fun q1 q1r => ?_)
  obtain ⟨q1a, q1b⟩ := id q1r
  refine gd_top (y := 6) rfl ?_
  have q1n : zz_R (6) := q1r
  obtain ⟨q1na, q1nb⟩ := id q1n
  refine gd_aload_n hC dX3_isTyped_4 rfl (j := 0) rfl ?_
  refine gd_getI hC w3 hK (ci := 3) rfl (by decide) rfl 1 (by decide) rfl f48 rfl dX3_isTyped_5 (fun r2 => ?_)
  obtain ⟨r2a, r2b⟩ := id r2
  refine gd_icmp_eq hC dX3_isTyped_8 (tgt := 13) (by decide) ⟨by decide, by decide⟩ ⟨by omega, by omega⟩ (fun c3 => ?_) (fun c3 => ?_)
  · skip
    refine gd_iconst hC dX3_isTyped_13 ?_
    refine gd_istore_n hC dX3_isTyped_14 rfl (by decide) (lv' := [(2, zz_v 0), (0, .ref (a 0)), (1, .ref (Y.1 3))]) rfl ?_
    refine gd_iload_n hC dX3_isTyped_15 rfl (j := 0) rfl ?_
    refine gd_aload_n hC dX3_isTyped_16 rfl (j := 1) rfl ?_
    refine gd_getI hC w3 hK (ci := 3) rfl (by decide) rfl 1 (by decide) rfl f48 rfl dX3_isTyped_17 (fun r4 => ?_)
    obtain ⟨r4a, r4b⟩ := id r4
    refine gd_top (y := 6) (show S 0 1 = 6 by omega) ?_
    refine gd_icmp_ge hC dX3_isTyped_20 (tgt := 45) (by decide) ⟨by decide, by decide⟩ ⟨by decide, by decide⟩ (fun c5 => (by omega)) (fun c5 => ?_)
    refine gd_aload_n hC dX3_isTyped_23 rfl (j := 2) rfl ?_
    refine gd_iload_n hC dX3_isTyped_24 rfl (j := 0) rfl ?_
    refine gd_callTR (As := [zz_v 0]) (rest := []) (i := 3) hC hF (fun hR => c_J0_charAt_5068e l hl9 N0 G Y a (S) 3 (by omega) 0 0 rfl (by decide) (by decide)) (cwV 1 hts gX3_isTyped_J0_charAt_5068e rfl rfl rfl (by decide +kernel) ⟨by decide, by decide⟩) (by omega) rfl rfl (Nat.le_of_ble_eq_true rfl) dX3_isTyped_25 ⟨by decide, by decide⟩ (fun E hx => zz_xn hx) (fun q6 q6r => ?_)
    obtain ⟨q6a, q6b⟩ := id q6r
    refine gd_top (y := 97) rfl ?_
    have q6n : zz_R (97) := q6r
    obtain ⟨q6na, q6nb⟩ := id q6n
    refine gd_aload_n hC dX3_isTyped_28 rfl (j := 1) rfl ?_
    refine gd_getR hC w3 hK (ci := 3) rfl (by decide) rfl 0 (by decide) (j := 1) rfl f9 rfl dX3_isTyped_29 ?_
    refine gd_iload_n hC dX3_isTyped_32 rfl (j := 0) rfl ?_
    refine gd_cald hC hK (j := 0) rfl (by decide) rfl (by omega) (by decide) dX3_isTyped_33 (fun r7 => ?_)
    obtain ⟨r7a, r7b⟩ := id r7
    refine gd_icmp_eq hC dX3_isTyped_34 (tgt := 39) (by decide) ⟨by decide, by decide⟩ ⟨by omega, by omega⟩ (fun c8 => ?_) (fun c8 => ?_)
    · skip
      refine gd_iinc hC dX3_isTyped_39 (j := 0) rfl (y := 1) (by omega) (by decide) (lv' := [(2, zz_v 1), (0, .ref (a 0)), (1, .ref (Y.1 3))]) rfl ?_
      refine gd_goto hC dX3_isTyped_42 (tgt := 15) (by decide) ?_
      refine gd_iload_n hC dX3_isTyped_15 rfl (j := 0) rfl ?_
      refine gd_aload_n hC dX3_isTyped_16 rfl (j := 1) rfl ?_
      refine gd_getI hC w3 hK (ci := 3) rfl (by decide) rfl 1 (by decide) rfl f48 rfl dX3_isTyped_17 (fun r9 => ?_)
      obtain ⟨r9a, r9b⟩ := id r9
      refine gd_top (y := 6) (show S 0 1 = 6 by omega) ?_
      refine gd_icmp_ge hC dX3_isTyped_20 (tgt := 45) (by decide) ⟨by decide, by decide⟩ ⟨by decide, by decide⟩ (fun c10 => (by omega)) (fun c10 => ?_)
      refine gd_aload_n hC dX3_isTyped_23 rfl (j := 2) rfl ?_
      refine gd_iload_n hC dX3_isTyped_24 rfl (j := 0) rfl ?_
      refine gd_callTR (As := [zz_v 1]) (rest := []) (i := 3) hC hF (fun hR => c_J0_charAt_5068e l hl9 N0 G Y a (S) 3 (by omega) 1 1 rfl (by decide) (by decide)) (cwV 1 hts gX3_isTyped_J0_charAt_5068e rfl rfl rfl (by decide +kernel) ⟨by decide, by decide⟩) (by omega) rfl rfl (Nat.le_of_ble_eq_true rfl) dX3_isTyped_25 ⟨by decide, by decide⟩ (fun E hx => zz_xn hx) (fun q11 q11r => ?_)
      obtain ⟨q11a, q11b⟩ := id q11r
      refine gd_top (y := 110) rfl ?_
      have q11n : zz_R (110) := q11r
      obtain ⟨q11na, q11nb⟩ := id q11n
      refine gd_aload_n hC dX3_isTyped_28 rfl (j := 1) rfl ?_
      refine gd_getR hC w3 hK (ci := 3) rfl (by decide) rfl 0 (by decide) (j := 1) rfl f9 rfl dX3_isTyped_29 ?_
      refine gd_iload_n hC dX3_isTyped_32 rfl (j := 0) rfl ?_
      refine gd_cald hC hK (j := 1) rfl (by decide) rfl (by omega) (by decide) dX3_isTyped_33 (fun r12 => ?_)
      obtain ⟨r12a, r12b⟩ := id r12
      refine gd_icmp_eq hC dX3_isTyped_34 (tgt := 39) (by decide) ⟨by decide, by decide⟩ ⟨by omega, by omega⟩ (fun c13 => ?_) (fun c13 => ?_)
      · skip
        refine gd_iinc hC dX3_isTyped_39 (j := 0) rfl (y := 2) (by omega) (by decide) (lv' := [(2, zz_v 2), (0, .ref (a 0)), (1, .ref (Y.1 3))]) rfl ?_
        refine gd_goto hC dX3_isTyped_42 (tgt := 15) (by decide) ?_
        refine gd_iload_n hC dX3_isTyped_15 rfl (j := 0) rfl ?_
        refine gd_aload_n hC dX3_isTyped_16 rfl (j := 1) rfl ?_
        refine gd_getI hC w3 hK (ci := 3) rfl (by decide) rfl 1 (by decide) rfl f48 rfl dX3_isTyped_17 (fun r14 => ?_)
        obtain ⟨r14a, r14b⟩ := id r14
        refine gd_top (y := 6) (show S 0 1 = 6 by omega) ?_
        refine gd_icmp_ge hC dX3_isTyped_20 (tgt := 45) (by decide) ⟨by decide, by decide⟩ ⟨by decide, by decide⟩ (fun c15 => (by omega)) (fun c15 => ?_)
        refine gd_aload_n hC dX3_isTyped_23 rfl (j := 2) rfl ?_
        refine gd_iload_n hC dX3_isTyped_24 rfl (j := 0) rfl ?_
        refine gd_callTR (As := [zz_v 2]) (rest := []) (i := 3) hC hF (fun hR => c_J0_charAt_5068e l hl9 N0 G Y a (S) 3 (by omega) 2 2 rfl (by decide) (by decide)) (cwV 1 hts gX3_isTyped_J0_charAt_5068e rfl rfl rfl (by decide +kernel) ⟨by decide, by decide⟩) (by omega) rfl rfl (Nat.le_of_ble_eq_true rfl) dX3_isTyped_25 ⟨by decide, by decide⟩ (fun E hx => zz_xn hx) (fun q16 q16r => ?_)
        obtain ⟨q16a, q16b⟩ := id q16r
        refine gd_top (y := 115) rfl ?_
        have q16n : zz_R (115) := q16r
        obtain ⟨q16na, q16nb⟩ := id q16n
        refine gd_aload_n hC dX3_isTyped_28 rfl (j := 1) rfl ?_
        refine gd_getR hC w3 hK (ci := 3) rfl (by decide) rfl 0 (by decide) (j := 1) rfl f9 rfl dX3_isTyped_29 ?_
        refine gd_iload_n hC dX3_isTyped_32 rfl (j := 0) rfl ?_
        refine gd_cald hC hK (j := 2) rfl (by decide) rfl (by omega) (by decide) dX3_isTyped_33 (fun r17 => ?_)
        obtain ⟨r17a, r17b⟩ := id r17
        refine gd_icmp_eq hC dX3_isTyped_34 (tgt := 39) (by decide) ⟨by decide, by decide⟩ ⟨by omega, by omega⟩ (fun c18 => ?_) (fun c18 => ?_)
        · skip
          refine gd_iinc hC dX3_isTyped_39 (j := 0) rfl (y := 3) (by omega) (by decide) (lv' := [(2, zz_v 3), (0, .ref (a 0)), (1, .ref (Y.1 3))]) rfl ?_
          refine gd_goto hC dX3_isTyped_42 (tgt := 15) (by decide) ?_
          refine gd_iload_n hC dX3_isTyped_15 rfl (j := 0) rfl ?_
          refine gd_aload_n hC dX3_isTyped_16 rfl (j := 1) rfl ?_
          refine gd_getI hC w3 hK (ci := 3) rfl (by decide) rfl 1 (by decide) rfl f48 rfl dX3_isTyped_17 (fun r19 => ?_)
          obtain ⟨r19a, r19b⟩ := id r19
          refine gd_top (y := 6) (show S 0 1 = 6 by omega) ?_
          refine gd_icmp_ge hC dX3_isTyped_20 (tgt := 45) (by decide) ⟨by decide, by decide⟩ ⟨by decide, by decide⟩ (fun c20 => (by omega)) (fun c20 => ?_)
          refine gd_aload_n hC dX3_isTyped_23 rfl (j := 2) rfl ?_
          refine gd_iload_n hC dX3_isTyped_24 rfl (j := 0) rfl ?_
          refine gd_callTR (As := [zz_v 3]) (rest := []) (i := 3) hC hF (fun hR => c_J0_charAt_5068e l hl9 N0 G Y a (S) 3 (by omega) 3 3 rfl (by decide) (by decide)) (cwV 1 hts gX3_isTyped_J0_charAt_5068e rfl rfl rfl (by decide +kernel) ⟨by decide, by decide⟩) (by omega) rfl rfl (Nat.le_of_ble_eq_true rfl) dX3_isTyped_25 ⟨by decide, by decide⟩ (fun E hx => zz_xn hx) (fun q21 q21r => ?_)
          obtain ⟨q21a, q21b⟩ := id q21r
          refine gd_top (y := 119) rfl ?_
          have q21n : zz_R (119) := q21r
          obtain ⟨q21na, q21nb⟩ := id q21n
          refine gd_aload_n hC dX3_isTyped_28 rfl (j := 1) rfl ?_
          refine gd_getR hC w3 hK (ci := 3) rfl (by decide) rfl 0 (by decide) (j := 1) rfl f9 rfl dX3_isTyped_29 ?_
          refine gd_iload_n hC dX3_isTyped_32 rfl (j := 0) rfl ?_
          refine gd_cald hC hK (j := 3) rfl (by decide) rfl (by omega) (by decide) dX3_isTyped_33 (fun r22 => ?_)
          obtain ⟨r22a, r22b⟩ := id r22
          refine gd_icmp_eq hC dX3_isTyped_34 (tgt := 39) (by decide) ⟨by decide, by decide⟩ ⟨by omega, by omega⟩ (fun c23 => ?_) (fun c23 => ?_)
          · skip
            refine gd_iinc hC dX3_isTyped_39 (j := 0) rfl (y := 4) (by omega) (by decide) (lv' := [(2, zz_v 4), (0, .ref (a 0)), (1, .ref (Y.1 3))]) rfl ?_
            refine gd_goto hC dX3_isTyped_42 (tgt := 15) (by decide) ?_
            refine gd_iload_n hC dX3_isTyped_15 rfl (j := 0) rfl ?_
            refine gd_aload_n hC dX3_isTyped_16 rfl (j := 1) rfl ?_
            refine gd_getI hC w3 hK (ci := 3) rfl (by decide) rfl 1 (by decide) rfl f48 rfl dX3_isTyped_17 (fun r24 => ?_)
            obtain ⟨r24a, r24b⟩ := id r24
            refine gd_top (y := 6) (show S 0 1 = 6 by omega) ?_
            refine gd_icmp_ge hC dX3_isTyped_20 (tgt := 45) (by decide) ⟨by decide, by decide⟩ ⟨by decide, by decide⟩ (fun c25 => (by omega)) (fun c25 => ?_)
            refine gd_aload_n hC dX3_isTyped_23 rfl (j := 2) rfl ?_
            refine gd_iload_n hC dX3_isTyped_24 rfl (j := 0) rfl ?_
            refine gd_callTR (As := [zz_v 4]) (rest := []) (i := 3) hC hF (fun hR => c_J0_charAt_5068e l hl9 N0 G Y a (S) 3 (by omega) 4 4 rfl (by decide) (by decide)) (cwV 1 hts gX3_isTyped_J0_charAt_5068e rfl rfl rfl (by decide +kernel) ⟨by decide, by decide⟩) (by omega) rfl rfl (Nat.le_of_ble_eq_true rfl) dX3_isTyped_25 ⟨by decide, by decide⟩ (fun E hx => zz_xn hx) (fun q26 q26r => ?_)
            obtain ⟨q26a, q26b⟩ := id q26r
            refine gd_top (y := 101) rfl ?_
            have q26n : zz_R (101) := q26r
            obtain ⟨q26na, q26nb⟩ := id q26n
            refine gd_aload_n hC dX3_isTyped_28 rfl (j := 1) rfl ?_
            refine gd_getR hC w3 hK (ci := 3) rfl (by decide) rfl 0 (by decide) (j := 1) rfl f9 rfl dX3_isTyped_29 ?_
            refine gd_iload_n hC dX3_isTyped_32 rfl (j := 0) rfl ?_
            refine gd_cald hC hK (j := 4) rfl (by decide) rfl (by omega) (by decide) dX3_isTyped_33 (fun r27 => ?_)
            obtain ⟨r27a, r27b⟩ := id r27
            refine gd_icmp_eq hC dX3_isTyped_34 (tgt := 39) (by decide) ⟨by decide, by decide⟩ ⟨by omega, by omega⟩ (fun c28 => ?_) (fun c28 => ?_)
            · skip
              refine gd_iinc hC dX3_isTyped_39 (j := 0) rfl (y := 5) (by omega) (by decide) (lv' := [(2, zz_v 5), (0, .ref (a 0)), (1, .ref (Y.1 3))]) rfl ?_
              refine gd_goto hC dX3_isTyped_42 (tgt := 15) (by decide) ?_
              refine gd_iload_n hC dX3_isTyped_15 rfl (j := 0) rfl ?_
              refine gd_aload_n hC dX3_isTyped_16 rfl (j := 1) rfl ?_
              refine gd_getI hC w3 hK (ci := 3) rfl (by decide) rfl 1 (by decide) rfl f48 rfl dX3_isTyped_17 (fun r29 => ?_)
              obtain ⟨r29a, r29b⟩ := id r29
              refine gd_top (y := 6) (show S 0 1 = 6 by omega) ?_
              refine gd_icmp_ge hC dX3_isTyped_20 (tgt := 45) (by decide) ⟨by decide, by decide⟩ ⟨by decide, by decide⟩ (fun c30 => (by omega)) (fun c30 => ?_)
              refine gd_aload_n hC dX3_isTyped_23 rfl (j := 2) rfl ?_
              refine gd_iload_n hC dX3_isTyped_24 rfl (j := 0) rfl ?_
              refine gd_callTR (As := [zz_v 5]) (rest := []) (i := 3) hC hF (fun hR => c_J0_charAt_5068e l hl9 N0 G Y a (S) 3 (by omega) 5 5 rfl (by decide) (by decide)) (cwV 1 hts gX3_isTyped_J0_charAt_5068e rfl rfl rfl (by decide +kernel) ⟨by decide, by decide⟩) (by omega) rfl rfl (Nat.le_of_ble_eq_true rfl) dX3_isTyped_25 ⟨by decide, by decide⟩ (fun E hx => zz_xn hx) (fun q31 q31r => ?_)
              obtain ⟨q31a, q31b⟩ := id q31r
              refine gd_top (y := 114) rfl ?_
              have q31n : zz_R (114) := q31r
              obtain ⟨q31na, q31nb⟩ := id q31n
              refine gd_aload_n hC dX3_isTyped_28 rfl (j := 1) rfl ?_
              refine gd_getR hC w3 hK (ci := 3) rfl (by decide) rfl 0 (by decide) (j := 1) rfl f9 rfl dX3_isTyped_29 ?_
              refine gd_iload_n hC dX3_isTyped_32 rfl (j := 0) rfl ?_
              refine gd_cald hC hK (j := 5) rfl (by decide) rfl (by omega) (by decide) dX3_isTyped_33 (fun r32 => ?_)
              obtain ⟨r32a, r32b⟩ := id r32
              refine gd_icmp_eq hC dX3_isTyped_34 (tgt := 39) (by decide) ⟨by decide, by decide⟩ ⟨by omega, by omega⟩ (fun c33 => ?_) (fun c33 => ?_)
              · skip
                refine gd_iinc hC dX3_isTyped_39 (j := 0) rfl (y := 6) (by omega) (by decide) (lv' := [(2, zz_v 6), (0, .ref (a 0)), (1, .ref (Y.1 3))]) rfl ?_
                refine gd_goto hC dX3_isTyped_42 (tgt := 15) (by decide) ?_
                refine gd_iload_n hC dX3_isTyped_15 rfl (j := 0) rfl ?_
                refine gd_aload_n hC dX3_isTyped_16 rfl (j := 1) rfl ?_
                refine gd_getI hC w3 hK (ci := 3) rfl (by decide) rfl 1 (by decide) rfl f48 rfl dX3_isTyped_17 (fun r34 => ?_)
                obtain ⟨r34a, r34b⟩ := id r34
                refine gd_top (y := 6) (show S 0 1 = 6 by omega) ?_
                refine gd_icmp_ge hC dX3_isTyped_20 (tgt := 45) (by decide) ⟨by decide, by decide⟩ ⟨by decide, by decide⟩ (fun c35 => ?_) (fun c35 => (by omega))
                refine gd_iconst hC dX3_isTyped_45 ?_
                exact gd_ireturn hC hr (zz_nb (by omega)) hlk dX3_isTyped_46 (by decide) ⟨_, ⟨by decide, by decide⟩, rfl, (by first | rfl | ((repeat' split) <;> first | rfl | omega)), (by unfold zz_mty; omega), (zz_mty_01 _ _ _)⟩
              · skip
                refine gd_iconst hC dX3_isTyped_37 ?_
                exact gd_ireturn hC hr (zz_nb (by omega)) hlk dX3_isTyped_38 (by decide) ⟨_, ⟨by decide, by decide⟩, rfl, (by first | rfl | ((repeat' split) <;> first | rfl | omega)), (by unfold zz_mty; omega), (zz_mty_01 _ _ _)⟩
            · skip
              refine gd_iconst hC dX3_isTyped_37 ?_
              exact gd_ireturn hC hr (zz_nb (by omega)) hlk dX3_isTyped_38 (by decide) ⟨_, ⟨by decide, by decide⟩, rfl, (by first | rfl | ((repeat' split) <;> first | rfl | omega)), (by unfold zz_mty; omega), (zz_mty_01 _ _ _)⟩
          · skip
            refine gd_iconst hC dX3_isTyped_37 ?_
            exact gd_ireturn hC hr (zz_nb (by omega)) hlk dX3_isTyped_38 (by decide) ⟨_, ⟨by decide, by decide⟩, rfl, (by first | rfl | ((repeat' split) <;> first | rfl | omega)), (by unfold zz_mty; omega), (zz_mty_01 _ _ _)⟩
        · skip
          refine gd_iconst hC dX3_isTyped_37 ?_
          exact gd_ireturn hC hr (zz_nb (by omega)) hlk dX3_isTyped_38 (by decide) ⟨_, ⟨by decide, by decide⟩, rfl, (by first | rfl | ((repeat' split) <;> first | rfl | omega)), (by unfold zz_mty; omega), (zz_mty_01 _ _ _)⟩
      · skip
        refine gd_iconst hC dX3_isTyped_37 ?_
        exact gd_ireturn hC hr (zz_nb (by omega)) hlk dX3_isTyped_38 (by decide) ⟨_, ⟨by decide, by decide⟩, rfl, (by first | rfl | ((repeat' split) <;> first | rfl | omega)), (by unfold zz_mty; omega), (zz_mty_01 _ _ _)⟩
    · skip
      refine gd_iconst hC dX3_isTyped_37 ?_
      exact gd_ireturn hC hr (zz_nb (by omega)) hlk dX3_isTyped_38 (by decide) ⟨_, ⟨by decide, by decide⟩, rfl, (by first | rfl | ((repeat' split) <;> first | rfl | omega)), (by unfold zz_mty; omega), (zz_mty_01 _ _ _)⟩
  · skip
    refine gd_iconst hC dX3_isTyped_11 ?_
    exact gd_ireturn hC hr (zz_nb (by omega)) hlk dX3_isTyped_12 (by decide) ⟨_, ⟨by decide, by decide⟩, rfl, (by first | rfl | ((repeat' split) <;> first | rfl | omega)), (by unfold zz_mty; omega), (zz_mty_01 _ _ _)⟩

abbrev rm_X3_typedKind : Room := { frames := 5, cells := 0, slots := 0, locals := 107 }
set_option maxHeartbeats 4000000 in
set_option maxRecDepth 100000 in
theorem c_X3_typedKind (l : Launch) (hl9 : l.stackTraces = false) (N0 : Nat) (G : zz_G) (Y : zz_Y) (a : Nat → Nat) (S : zz_S) (htc : 0 ≤ S 0 1 ∧ S 0 1 ≤ 7) : CtR l yX3_typedKind wsX3_typedKind rm_X3_typedKind 0 [.ref (a 0)] N0 G Y a S (zz_tk (S 1) (S 0 1)) (S) (-1 ≤ zz_tk (S 1) (S 0 1) ∧ zz_tk (S 1) (S 0 1) ≤ 3) (False) (False) (False) := by
  refine Ct_.of (cc := cX3_typedKind) (maxL := 2) (ret := (some .int)) (by decide) rfl (Nat.le_of_ble_eq_true rfl) ?_
  intro p e s m args below meth c hC hts hr hlk hex hF
  have hK := hF.2.1
  refine gd_lveq (lv' := [(0, .ref (a 0))]) rfl ?_
  refine gd_iconst hC dX3_typedKind_0 ?_
  refine gd_istore_n hC dX3_typedKind_1 rfl (by decide) (lv' := [(1, zz_v 0), (0, .ref (a 0))]) rfl ?_
  refine gd_iload_n hC dX3_typedKind_2 rfl (j := 0) rfl ?_
  refine gd_iconst hC dX3_typedKind_3 ?_
  refine gd_icmp_ge hC dX3_typedKind_4 (tgt := 26) (by decide) ⟨by decide, by decide⟩ ⟨by decide, by decide⟩ (fun c1 => (by omega)) (fun c1 => ?_)
  refine gd_aload_n hC dX3_typedKind_7 rfl (j := 1) rfl ?_
  refine gd_iload_n hC dX3_typedKind_8 rfl (j := 0) rfl ?_
  refine gd_callSW (As := [zz_v 0]) (rest := [.ref (a 0)]) hC hF (fun hR => c_X3_wordOf_0 l hl9 N0 G Y a (S) ) (va_cwS 1 hts gX3_typedKind_X3_wordOf rfl rfl rfl (by decide +kernel) ⟨by decide, by decide⟩) rfl rfl (Nat.le_of_ble_eq_true rfl) dX3_typedKind_9 ⟨by decide, by decide⟩ ?_
  refine gd_callVR (As := [.ref (Y.1 0)]) (rest := []) hC hF (fun hR => c_X3_isTyped_0 l hl9 N0 G Y a (S) htc) (cwV 1 hts gX3_typedKind_X3_isTyped rfl rfl rfl (by decide +kernel) ⟨by decide, by decide⟩) rfl (by decide) (ci := 3) rfl rfl rfl rfl (Nat.le_of_ble_eq_true rfl) dX3_typedKind_12 ⟨by decide, by decide⟩ (fun E hx => zz_xn hx) (fun q3 q3r => ?_)
  obtain ⟨q3a, q3b⟩ := id q3r
  refine gd_if_eq hC dX3_typedKind_15 (tgt := 20) (by decide) ⟨by omega, by omega⟩ (fun c4 => ?_) (fun c4 => ?_)
  · skip
    refine gd_iinc hC dX3_typedKind_20 (j := 0) rfl (y := 1) (by omega) (by decide) (lv' := [(1, zz_v 1), (0, .ref (a 0))]) rfl ?_
    refine gd_goto hC dX3_typedKind_23 (tgt := 2) (by decide) ?_
    refine gd_iload_n hC dX3_typedKind_2 rfl (j := 0) rfl ?_
    refine gd_iconst hC dX3_typedKind_3 ?_
    refine gd_icmp_ge hC dX3_typedKind_4 (tgt := 26) (by decide) ⟨by decide, by decide⟩ ⟨by decide, by decide⟩ (fun c5 => (by omega)) (fun c5 => ?_)
    refine gd_aload_n hC dX3_typedKind_7 rfl (j := 1) rfl ?_
    refine gd_iload_n hC dX3_typedKind_8 rfl (j := 0) rfl ?_
    refine gd_callSW (As := [zz_v 1]) (rest := [.ref (a 0)]) hC hF (fun hR => c_X3_wordOf_1 l hl9 N0 G Y a (S) ) (va_cwS 1 hts gX3_typedKind_X3_wordOf rfl rfl rfl (by decide +kernel) ⟨by decide, by decide⟩) rfl rfl (Nat.le_of_ble_eq_true rfl) dX3_typedKind_9 ⟨by decide, by decide⟩ ?_
    refine gd_callVR (As := [.ref (Y.1 1)]) (rest := []) hC hF (fun hR => c_X3_isTyped_1 l hl9 N0 G Y a (S) htc) (cwV 1 hts gX3_typedKind_X3_isTyped rfl rfl rfl (by decide +kernel) ⟨by decide, by decide⟩) rfl (by decide) (ci := 3) rfl rfl rfl rfl (Nat.le_of_ble_eq_true rfl) dX3_typedKind_12 ⟨by decide, by decide⟩ (fun E hx => zz_xn hx) (fun q7 q7r => ?_)
    obtain ⟨q7a, q7b⟩ := id q7r
    refine gd_if_eq hC dX3_typedKind_15 (tgt := 20) (by decide) ⟨by omega, by omega⟩ (fun c8 => ?_) (fun c8 => ?_)
    · skip
      refine gd_iinc hC dX3_typedKind_20 (j := 0) rfl (y := 2) (by omega) (by decide) (lv' := [(1, zz_v 2), (0, .ref (a 0))]) rfl ?_
      refine gd_goto hC dX3_typedKind_23 (tgt := 2) (by decide) ?_
      refine gd_iload_n hC dX3_typedKind_2 rfl (j := 0) rfl ?_
      refine gd_iconst hC dX3_typedKind_3 ?_
      refine gd_icmp_ge hC dX3_typedKind_4 (tgt := 26) (by decide) ⟨by decide, by decide⟩ ⟨by decide, by decide⟩ (fun c9 => (by omega)) (fun c9 => ?_)
      refine gd_aload_n hC dX3_typedKind_7 rfl (j := 1) rfl ?_
      refine gd_iload_n hC dX3_typedKind_8 rfl (j := 0) rfl ?_
      refine gd_callSW (As := [zz_v 2]) (rest := [.ref (a 0)]) hC hF (fun hR => c_X3_wordOf_2 l hl9 N0 G Y a (S) ) (va_cwS 1 hts gX3_typedKind_X3_wordOf rfl rfl rfl (by decide +kernel) ⟨by decide, by decide⟩) rfl rfl (Nat.le_of_ble_eq_true rfl) dX3_typedKind_9 ⟨by decide, by decide⟩ ?_
      refine gd_callVR (As := [.ref (Y.1 2)]) (rest := []) hC hF (fun hR => c_X3_isTyped_2 l hl9 N0 G Y a (S) htc) (cwV 1 hts gX3_typedKind_X3_isTyped rfl rfl rfl (by decide +kernel) ⟨by decide, by decide⟩) rfl (by decide) (ci := 3) rfl rfl rfl rfl (Nat.le_of_ble_eq_true rfl) dX3_typedKind_12 ⟨by decide, by decide⟩ (fun E hx => zz_xn hx) (fun q11 q11r => ?_)
      obtain ⟨q11a, q11b⟩ := id q11r
      refine gd_if_eq hC dX3_typedKind_15 (tgt := 20) (by decide) ⟨by omega, by omega⟩ (fun c12 => ?_) (fun c12 => ?_)
      · skip
        refine gd_iinc hC dX3_typedKind_20 (j := 0) rfl (y := 3) (by omega) (by decide) (lv' := [(1, zz_v 3), (0, .ref (a 0))]) rfl ?_
        refine gd_goto hC dX3_typedKind_23 (tgt := 2) (by decide) ?_
        refine gd_iload_n hC dX3_typedKind_2 rfl (j := 0) rfl ?_
        refine gd_iconst hC dX3_typedKind_3 ?_
        refine gd_icmp_ge hC dX3_typedKind_4 (tgt := 26) (by decide) ⟨by decide, by decide⟩ ⟨by decide, by decide⟩ (fun c13 => (by omega)) (fun c13 => ?_)
        refine gd_aload_n hC dX3_typedKind_7 rfl (j := 1) rfl ?_
        refine gd_iload_n hC dX3_typedKind_8 rfl (j := 0) rfl ?_
        refine gd_callSW (As := [zz_v 3]) (rest := [.ref (a 0)]) hC hF (fun hR => c_X3_wordOf_3 l hl9 N0 G Y a (S) ) (va_cwS 1 hts gX3_typedKind_X3_wordOf rfl rfl rfl (by decide +kernel) ⟨by decide, by decide⟩) rfl rfl (Nat.le_of_ble_eq_true rfl) dX3_typedKind_9 ⟨by decide, by decide⟩ ?_
        refine gd_callVR (As := [.ref (Y.1 3)]) (rest := []) hC hF (fun hR => c_X3_isTyped_3 l hl9 N0 G Y a (S) htc) (cwV 1 hts gX3_typedKind_X3_isTyped rfl rfl rfl (by decide +kernel) ⟨by decide, by decide⟩) rfl (by decide) (ci := 3) rfl rfl rfl rfl (Nat.le_of_ble_eq_true rfl) dX3_typedKind_12 ⟨by decide, by decide⟩ (fun E hx => zz_xn hx) (fun q15 q15r => ?_)
        obtain ⟨q15a, q15b⟩ := id q15r
        refine gd_if_eq hC dX3_typedKind_15 (tgt := 20) (by decide) ⟨by omega, by omega⟩ (fun c16 => ?_) (fun c16 => ?_)
        · skip
          refine gd_iinc hC dX3_typedKind_20 (j := 0) rfl (y := 4) (by omega) (by decide) (lv' := [(1, zz_v 4), (0, .ref (a 0))]) rfl ?_
          refine gd_goto hC dX3_typedKind_23 (tgt := 2) (by decide) ?_
          refine gd_iload_n hC dX3_typedKind_2 rfl (j := 0) rfl ?_
          refine gd_iconst hC dX3_typedKind_3 ?_
          refine gd_icmp_ge hC dX3_typedKind_4 (tgt := 26) (by decide) ⟨by decide, by decide⟩ ⟨by decide, by decide⟩ (fun c17 => ?_) (fun c17 => (by omega))
          refine gd_iconst hC dX3_typedKind_26 ?_
          exact gd_ireturn hC hr rfl hlk dX3_typedKind_27 (by decide) ⟨_, ⟨by decide, by decide⟩, rfl, (by first | rfl | ((repeat' split) <;> first | rfl | omega)), (by unfold zz_tk; omega), (by unfold zz_tk; omega)⟩
        · skip
          refine gd_iload_n hC dX3_typedKind_18 rfl (j := 0) rfl ?_
          exact gd_ireturn hC hr rfl hlk dX3_typedKind_19 (by decide) ⟨_, ⟨by decide, by decide⟩, rfl, (by first | rfl | ((repeat' split) <;> first | rfl | omega)), (by unfold zz_tk; omega), (by unfold zz_tk; omega)⟩
      · skip
        refine gd_iload_n hC dX3_typedKind_18 rfl (j := 0) rfl ?_
        exact gd_ireturn hC hr rfl hlk dX3_typedKind_19 (by decide) ⟨_, ⟨by decide, by decide⟩, rfl, (by first | rfl | ((repeat' split) <;> first | rfl | omega)), (by unfold zz_tk; omega), (by unfold zz_tk; omega)⟩
    · skip
      refine gd_iload_n hC dX3_typedKind_18 rfl (j := 0) rfl ?_
      exact gd_ireturn hC hr rfl hlk dX3_typedKind_19 (by decide) ⟨_, ⟨by decide, by decide⟩, rfl, (by first | rfl | ((repeat' split) <;> first | rfl | omega)), (by unfold zz_tk; omega), (by unfold zz_tk; omega)⟩
  · skip
    refine gd_iload_n hC dX3_typedKind_18 rfl (j := 0) rfl ?_
    exact gd_ireturn hC hr rfl hlk dX3_typedKind_19 (by decide) ⟨_, ⟨by decide, by decide⟩, rfl, (by first | rfl | ((repeat' split) <;> first | rfl | omega)), (by unfold zz_tk; omega), (by unfold zz_tk; omega)⟩

abbrev rm_X3_act : Room := { frames := 7, cells := 4, slots := 24, locals := 128 }
set_option maxHeartbeats 4000000 in
set_option maxRecDepth 100000 in
theorem c_X3_act (l : Launch) (hl9 : l.stackTraces = false) (N0 : Nat) (G : zz_G) (Y : zz_Y) (a : Nat → Nat) (S : zz_S) (x y w : Int) (hx : zz_R x) (hy : zz_R y) (hw : zz_R w) (hI : zz_IC S) : CtR l yX3_act wsX3_act rm_X3_act 4 [.ref (a 0), zz_v x, zz_v y, zz_v w] N0 G Y a S (if zz_tk (S 1) (S 0 1) = -1 then -1 else S 0 7) (zz_aS S x y w) (((0 ≤ x ∧ x < S 0 3) ∧ ((0 ≤ y ∧ y ≤ 100) ∧ (0 ≤ w ∧ w ≤ 1000))) ∧ S 0 7 < 24) (¬ (0 ≤ x ∧ x < S 0 3)) ((0 ≤ x ∧ x < S 0 3) ∧ ¬ ((0 ≤ y ∧ y ≤ 100) ∧ (0 ≤ w ∧ w ≤ 1000))) (((0 ≤ x ∧ x < S 0 3) ∧ ((0 ≤ y ∧ y ≤ 100) ∧ (0 ≤ w ∧ w ≤ 1000))) ∧ 24 ≤ S 0 7) := by
  refine Ct_.of (cc := cX3_act) (maxL := 6) (ret := (some .int)) (by decide) rfl (Nat.le_of_ble_eq_true rfl) ?_
  intro p e s m args below meth c hC hts hr hlk hex hF
  have hK := hF.2.1
  have w3 : ∀ w ∈ u_ws RX3 TX3 11, w.before args s = true := fun w h => hts w (List.mem_cons_of_mem _ (List.mem_append_left _ (List.mem_append_left _ (List.mem_append_left _ (List.mem_append_left _ (List.mem_append_left _ (List.mem_append_right _ h)))))))
  have f29 : (Cond.fieldLink RX3 29 "Grievancehall" "acts" "[LGrievancehall$Act;").before args s = true := hts _ (by decide +kernel)
  have f48 : (Cond.fieldLink RX3 48 "Grievancehall" "typedCount" "I").before args s = true := hts _ (by decide +kernel)
  have f57 : (Cond.fieldLink RX3 57 "Grievancehall" "officeCount" "I").before args s = true := hts _ (by decide +kernel)
  have f68 : (Cond.fieldLink RX3 68 "Grievancehall" "today" "I").before args s = true := hts _ (by decide +kernel)
  have f86 : (Cond.fieldLink RX3 86 "Grievancehall" "actCount" "I").before args s = true := hts _ (by decide +kernel)
  have t3 : ∀ w ∈ (vx_atS RX3 56 "java/lang/IllegalStateException" ["java/lang/RuntimeException", "java/lang/Exception"]).filter goodWord, w.before args s = true := fun w h => hts w (List.mem_cons_of_mem _ (List.mem_append_left _ (List.mem_append_left _ (List.mem_append_right _ h))))
  refine gd_lveq (lv' := [(0, .ref (a 0)), (1, zz_v x), (2, zz_v y), (3, zz_v w)]) rfl ?_
  obtain ⟨itc, ioc, iac, icc, itd, idc, ilc, iab, idv, iow, ikd, idy, ims, ihm, ict, iwv, irm, ipl, ian, ist, idl, ipe, ifi, ias, ihe, ifn, iod, ity⟩ := id hI
  obtain ⟨hx1, hx2⟩ := id hx
  obtain ⟨hy1, hy2⟩ := id hy
  obtain ⟨hw1, hw2⟩ := id hw
  refine gd_iload_n hC dX3_act_0 rfl (j := 1) rfl ?_
  refine gd_aload_n hC dX3_act_1 rfl (j := 0) rfl ?_
  refine gd_getI hC w3 hK (ci := 3) rfl (by decide) rfl 3 (by decide) rfl f57 rfl dX3_act_2 (fun r1 => ?_)
  obtain ⟨r1a, r1b⟩ := id r1
  refine gd_callSN (As := [zz_v x, zz_v (S 0 3)]) (rest := []) hC hF (fun hR => c_X3_needNumber l hl9 N0 G Y a (S) x (S 0 3) ⟨by omega, by omega⟩ ⟨by omega, by omega⟩) (va_cwS 2 hts gX3_act_X3_needNumber rfl rfl rfl (by decide +kernel) ⟨by decide, by decide⟩) rfl rfl (Nat.le_of_ble_eq_true rfl) dX3_act_5 ⟨by decide, by decide⟩ (fun E hx => gx_out (Y := Y) (fun x h => (hex x h).elim) hlk ⟨rfl, zz_xm (fun z => by omega) (fun z => z.elim) (fun z => z.elim) hx⟩ (by decide)) (fun q2 => ?_)
  refine gd_iload_n hC dX3_act_8 rfl (j := 2) rfl ?_
  refine gd_iconst hC dX3_act_9 ?_
  refine gd_bipush hC dX3_act_10 rfl ?_
  refine gd_callSN (As := [zz_v y, zz_v 0, zz_v 100]) (rest := []) hC hF (fun hR => c_X3_needRange l hl9 N0 G Y a (S) y 0 100 ⟨by omega, by omega⟩ ⟨by decide, by decide⟩ ⟨by decide, by decide⟩) (va_cwS 3 hts gX3_act_X3_needRange rfl rfl rfl (by decide +kernel) ⟨by decide, by decide⟩) rfl rfl (Nat.le_of_ble_eq_true rfl) dX3_act_12 ⟨by decide, by decide⟩ (fun E hx => gx_out (Y := Y) (fun x h => (hex x h).elim) hlk ⟨rfl, zz_xm (fun z => z.elim) (fun z => by omega) (fun z => z.elim) hx⟩ (by decide)) (fun q3 => ?_)
  refine gd_iload_n hC dX3_act_15 rfl (j := 3) rfl ?_
  refine gd_iconst hC dX3_act_16 ?_
  refine gd_sipush hC dX3_act_17 rfl ?_
  refine gd_callSN (As := [zz_v w, zz_v 0, zz_v 1000]) (rest := []) hC hF (fun hR => c_X3_needRange l hl9 N0 G Y a (S) w 0 1000 ⟨by omega, by omega⟩ ⟨by decide, by decide⟩ ⟨by decide, by decide⟩) (va_cwS 3 hts gX3_act_X3_needRange rfl rfl rfl (by decide +kernel) ⟨by decide, by decide⟩) rfl rfl (Nat.le_of_ble_eq_true rfl) dX3_act_20 ⟨by decide, by decide⟩ (fun E hx => gx_out (Y := Y) (fun x h => (hex x h).elim) hlk ⟨rfl, zz_xm (fun z => z.elim) (fun z => by omega) (fun z => z.elim) hx⟩ (by decide)) (fun q4 => ?_)
  refine gd_aload_n hC dX3_act_23 rfl (j := 0) rfl ?_
  refine gd_getI hC w3 hK (ci := 3) rfl (by decide) rfl 7 (by decide) rfl f86 rfl dX3_act_24 (fun r5 => ?_)
  obtain ⟨r5a, r5b⟩ := id r5
  refine gd_bipush hC dX3_act_27 rfl ?_
  refine gd_icmp_lt hC dX3_act_29 (tgt := 42) (by decide) ⟨by omega, by omega⟩ ⟨by decide, by decide⟩ (fun c6 => ?_) (fun c6 => ?_)
  · skip
    refine gd_aload_n hC dX3_act_42 rfl (j := 0) rfl ?_
    refine gd_callVR (As := []) (rest := []) hC hF (fun hR => c_X3_typedKind l hl9 N0 G Y a (S) itc) (cwV 0 hts gX3_act_X3_typedKind rfl rfl rfl (by decide +kernel) ⟨by decide, by decide⟩) rfl (by decide) (ci := 3) rfl rfl rfl rfl (Nat.le_of_ble_eq_true rfl) dX3_act_43 ⟨by decide, by decide⟩ (fun E hx => zz_xn hx) (fun q7 q7r => ?_)
    obtain ⟨q7a, q7b⟩ := id q7r
    refine gd_istore hC dX3_act_46 (by decide) (lv' := [(4, zz_v (zz_tk (S 1) (S 0 1))), (0, .ref (a 0)), (1, zz_v x), (2, zz_v y), (3, zz_v w)]) rfl ?_
    refine gd_aload_n hC dX3_act_48 rfl (j := 1) rfl ?_
    refine gd_iconst hC dX3_act_49 ?_
    refine gd_put hC w3 tyX3 tyX3_ok nmX3 hK (ci := 3) rfl (by decide) rfl 1 (by decide) rfl f48 rfl rfl (ty := .int) (by decide +kernel) rfl rfl ⟨by decide, by decide⟩ dX3_act_50 ?_
    refine gd_iload hC dX3_act_53 (j := 0) rfl ?_
    refine gd_iconst hC dX3_act_55 ?_
    refine gd_icmp_ne hC dX3_act_56 (tgt := 61) (by decide) ⟨by omega, by omega⟩ ⟨by decide, by decide⟩ (fun c8 => ?_) (fun c8 => ?_)
    · skip
      refine gd_aload_n hC dX3_act_61 rfl (j := 1) rfl ?_
      refine gd_getI hC w3 hK (ci := 3) rfl (by decide) rfl 7 (by decide) rfl f86 rfl dX3_act_62 (fun r9 => ?_)
      obtain ⟨r9a, r9b⟩ := id r9
      refine gd_top (y := S 0 7) (zz_u_ne _ _ (by omega)) ?_
      rw [(zz_u_ne _ _ (by omega) : (zz_u (S) (0) (1) (0)) (0) (7) = S 0 7)] at r9a r9b
      refine gd_istore hC dX3_act_65 (by decide) (lv' := [(5, zz_v (S 0 7)), (4, zz_v (zz_tk (S 1) (S 0 1))), (0, .ref (a 0)), (1, zz_v x), (2, zz_v y), (3, zz_v w)]) rfl ?_
      refine gd_aload_n hC dX3_act_67 rfl (j := 2) rfl ?_
      refine gd_getR hC w3 hK (ci := 3) rfl (by decide) rfl 6 (by decide) (j := 11) rfl f29 rfl dX3_act_68 ?_
      refine gd_iload hC dX3_act_71 (j := 0) rfl ?_
      refine gd_aald hC hK (t := 2) (Cn := RX0) (j := (S 0 7).toNat) (q := 13 + (S 0 7).toNat) rfl (by decide) rfl (by omega) (by omega) (by decide) rfl dX3_act_73 ?_
      refine gd_aload_n hC dX3_act_74 rfl (j := 2) rfl ?_
      refine gd_iload_n hC dX3_act_75 rfl (j := 3) rfl ?_
      refine gd_aload_n hC dX3_act_76 rfl (j := 2) rfl ?_
      refine gd_getI hC w3 hK (ci := 3) rfl (by decide) rfl 10 (by decide) rfl f68 rfl dX3_act_77 (fun r10 => ?_)
      obtain ⟨r10a, r10b⟩ := id r10
      refine gd_top (y := S 0 10) (zz_u_ne _ _ (by omega)) ?_
      rw [(zz_u_ne _ _ (by omega) : (zz_u (S) (0) (1) (0)) (0) (10) = S 0 10)] at r10a r10b
      refine gd_callVR (As := [zz_v x, zz_v (S 0 10)]) (rest := [.ref (a (13 + (S 0 7).toNat))]) hC hF (fun hR => c_X3_ownerOn l hl9 N0 G Y a (zz_u (S) (0) (1) (0)) x (S 0 10) ⟨by omega, by omega⟩ ⟨by omega, by omega⟩ idc) (cwV 2 hts gX3_act_X3_ownerOn rfl rfl rfl (by decide +kernel) ⟨by decide, by decide⟩) rfl (by decide) (ci := 3) rfl rfl rfl rfl (Nat.le_of_ble_eq_true rfl) dX3_act_80 ⟨by decide, by decide⟩ (fun E hx => zz_xn hx) (fun q11 q11r => ?_)
      obtain ⟨q11a, q11b⟩ := id q11r
      refine gd_top (y := zz_oo (S 4) (S 5) (S 6) (S 3 3).toNat (S 0 10) 10 x) rfl ?_
      have q11n : zz_R (zz_oo (S 4) (S 5) (S 6) (S 3 3).toNat (S 0 10) 10 x) := q11r
      obtain ⟨q11na, q11nb⟩ := id q11n
      refine gd_iload hC dX3_act_83 (j := 1) rfl ?_
      refine gd_aload_n hC dX3_act_85 rfl (j := 2) rfl ?_
      refine gd_getI hC w3 hK (ci := 3) rfl (by decide) rfl 10 (by decide) rfl f68 rfl dX3_act_86 (fun r12 => ?_)
      obtain ⟨r12a, r12b⟩ := id r12
      refine gd_top (y := S 0 10) (zz_u_ne _ _ (by omega)) ?_
      rw [(zz_u_ne _ _ (by omega) : (zz_u (S) (0) (1) (0)) (0) (10) = S 0 10)] at r12a r12b
      refine gd_iload_n hC dX3_act_89 rfl (j := 4) rfl ?_
      refine gd_iload_n hC dX3_act_90 rfl (j := 5) rfl ?_
      refine gd_callVN (As := [zz_v (zz_oo (S 4) (S 5) (S 6) (S 3 3).toNat (S 0 10) 10 x), zz_v (zz_tk (S 1) (S 0 1)), zz_v (S 0 10), zz_v y, zz_v w]) (rest := []) hC hF (fun hR => c_X0_begin l hl9 N0 G Y a (zz_u (S) (0) (1) (0)) (S 0 7).toNat (zz_oo (S 4) (S 5) (S 6) (S 3 3).toNat (S 0 10) 10 x) (zz_tk (S 1) (S 0 1)) (S 0 10) y w (by omega) ⟨by omega, by omega⟩ ⟨by omega, by omega⟩ ⟨by omega, by omega⟩ ⟨by omega, by omega⟩ ⟨by omega, by omega⟩) (cwV 5 hts gX3_act_X0_begin rfl rfl rfl (by decide +kernel) ⟨by decide, by decide⟩) (zz_act (by omega)) (by omega) (ci := 0) rfl rfl rfl rfl (Nat.le_of_ble_eq_true rfl) dX3_act_91 ⟨by decide, by decide⟩ (fun E hx => zz_xn hx) (fun q13 => ?_)
      refine gd_aload_n hC dX3_act_94 rfl (j := 2) rfl ?_
      refine gd_dup hC dX3_act_95 rfl ?_
      refine gd_getI hC w3 hK (ci := 3) rfl (by decide) rfl 7 (by decide) rfl f86 rfl dX3_act_96 (fun r14 => ?_)
      obtain ⟨r14a, r14b⟩ := id r14
      refine gd_top (y := S 0 7) ((zz_u_ne _ _ (by omega)).trans ((zz_u_ne _ _ (by omega)).trans ((zz_u_ne _ _ (by omega)).trans ((zz_u_ne _ _ (by omega)).trans ((zz_u_ne _ _ (by omega)).trans (zz_u_ne _ _ (by omega))))))) ?_
      rw [((zz_u_ne _ _ (by omega)).trans ((zz_u_ne _ _ (by omega)).trans ((zz_u_ne _ _ (by omega)).trans ((zz_u_ne _ _ (by omega)).trans ((zz_u_ne _ _ (by omega)).trans (zz_u_ne _ _ (by omega)))))) : (zz_u (zz_u (zz_u (zz_u (zz_u (zz_u (S) (0) (1) (0)) (13 + (S 0 7).toNat) (0) ((zz_oo (S 4) (S 5) (S 6) (S 3 3).toNat (S 0 10) 10 x))) (13 + (S 0 7).toNat) (1) ((zz_tk (S 1) (S 0 1)))) (13 + (S 0 7).toNat) (2) ((S 0 10))) (13 + (S 0 7).toNat) (3) (y)) (13 + (S 0 7).toNat) (4) (w)) (0) (7) = S 0 7)] at r14a r14b
      refine gd_iconst hC dX3_act_99 ?_
      refine gd_iadd hC dX3_act_100 ?_
      refine gd_put hC w3 tyX3 tyX3_ok nmX3 hK (ci := 3) rfl (by decide) rfl 7 (by decide) rfl f86 rfl rfl (ty := .int) (by decide +kernel) rfl rfl ⟨by omega, by omega⟩ dX3_act_101 ?_
      refine gd_iload hC dX3_act_104 (j := 0) rfl ?_
      exact gd_ireturn hC hr rfl hlk dX3_act_106 (by decide) ⟨_, ⟨by omega, by omega⟩, rfl, (by unfold zz_aS; rw [if_neg (by omega)]), (by first | rfl | omega), (by omega)⟩
    · skip
      refine gd_iconst hC dX3_act_59 ?_
      exact gd_ireturn hC hr rfl hlk dX3_act_60 (by decide) ⟨_, ⟨by decide, by decide⟩, rfl, (by unfold zz_aS; rw [if_pos (by omega)]), (by first | rfl | omega), (by omega)⟩
  · skip
    exact gd_throw3 (text := "no more acts") hC hl9 hF (hts _ (by decide +kernel)) (hts _ (by decide +kernel)) (by decide +kernel) t3 dX3_act_32 dX3_act_35 dX3_act_36 dX3_act_38 dX3_act_41 hex (by decide) (by decide) (by decide) (by decide) hlk rfl (by omega) (by decide)

abbrev rm_J6_bitCount_0f7a4 : Room := { frames := 0, cells := 0, slots := 0, locals := 0 }
set_option maxHeartbeats 4000000 in
set_option maxRecDepth 100000 in
theorem c_J6_bitCount_0f7a4 (l : Launch) (hl9 : l.stackTraces = false) (N0 : Nat) (G : zz_G) (Y : zz_Y) (a : Nat → Nat) (S : zz_S) (x : Int) (hx : 0 ≤ x ∧ x < 1024) : CtR l yJ6_bitCount_0f7a4 wsJ6_bitCount_0f7a4 rm_J6_bitCount_0f7a4 0 [zz_v x] N0 G Y a S (((zz_on x.toNat 10 : Nat) : Int)) (S) (True) (False) (False) (False) := by
  refine Ct_.of (cc := cJ6_bitCount_0f7a4) (maxL := 1) (ret := (some .int)) (by decide) rfl (Nat.le_of_ble_eq_true rfl) ?_
  intro p e s m args below meth c hC hts hr hlk hex hF
  have hK := hF.2.1
  have k265 : (Cond.constant RJ6 265 (Int32.ofInt 1431655765)).before args s = true := hts _ (by decide +kernel)
  have k266 : (Cond.constant RJ6 266 (Int32.ofInt 858993459)).before args s = true := hts _ (by decide +kernel)
  have k267 : (Cond.constant RJ6 267 (Int32.ofInt 252645135)).before args s = true := hts _ (by decide +kernel)
  refine gd_lveq (lv' := [(0, zz_v x)]) rfl ?_
  intro hR H locs ls hP hD hS hl
  refine lv_iload_n hC.1 hC.2.1 dJ6_bitCount_0f7a4_0 rfl (lv_at hl 0 rfl) ?_
  refine lv_iload_n hC.1 hC.2.1 dJ6_bitCount_0f7a4_1 rfl (lv_at hl 0 rfl) ?_
  refine lv_iconst (v := 1) hC.1 hC.2.1 dJ6_bitCount_0f7a4_2 (by decide) ?_
  refine lv_iushr (v := ((Int32.ofInt x).toUInt32 >>> ((1 : Int32).toUInt32 &&& Int32.toUInt32 31)).toInt32) hC.1 hC.2.1 dJ6_bitCount_0f7a4_3 rfl ?_
  refine lv_ldcw (v := 1431655765) hC.1 hC.2.1 hC.2.2.2 k265 dJ6_bitCount_0f7a4_4 ?_
  refine lv_iand hC.1 hC.2.1 dJ6_bitCount_0f7a4_7 ?_
  refine lv_isub hC.1 hC.2.1 dJ6_bitCount_0f7a4_8 ?_
  refine lv_topi (fun b9 eb9 => ?_)
  refine lv_istore_n (lv' := [(0, .int b9)]) hC.1 hC.2.1 dJ6_bitCount_0f7a4_9 rfl hl (by decide) rfl (fun ls hl => ?_)
  refine lv_iload_n hC.1 hC.2.1 dJ6_bitCount_0f7a4_10 rfl (lv_at hl 0 rfl) ?_
  refine lv_ldcw (v := 858993459) hC.1 hC.2.1 hC.2.2.2 k266 dJ6_bitCount_0f7a4_11 ?_
  refine lv_iand hC.1 hC.2.1 dJ6_bitCount_0f7a4_14 ?_
  refine lv_iload_n hC.1 hC.2.1 dJ6_bitCount_0f7a4_15 rfl (lv_at hl 0 rfl) ?_
  refine lv_iconst (v := 2) hC.1 hC.2.1 dJ6_bitCount_0f7a4_16 (by decide) ?_
  refine lv_iushr (v := ((b9).toUInt32 >>> ((2 : Int32).toUInt32 &&& Int32.toUInt32 31)).toInt32) hC.1 hC.2.1 dJ6_bitCount_0f7a4_17 rfl ?_
  refine lv_ldcw (v := 858993459) hC.1 hC.2.1 hC.2.2.2 k266 dJ6_bitCount_0f7a4_18 ?_
  refine lv_iand hC.1 hC.2.1 dJ6_bitCount_0f7a4_21 ?_
  refine lv_iadd hC.1 hC.2.1 dJ6_bitCount_0f7a4_22 ?_
  refine lv_topi (fun b23 eb23 => ?_)
  refine lv_istore_n (lv' := [(0, .int b23)]) hC.1 hC.2.1 dJ6_bitCount_0f7a4_23 rfl hl (by decide) rfl (fun ls hl => ?_)
  refine lv_iload_n hC.1 hC.2.1 dJ6_bitCount_0f7a4_24 rfl (lv_at hl 0 rfl) ?_
  refine lv_iload_n hC.1 hC.2.1 dJ6_bitCount_0f7a4_25 rfl (lv_at hl 0 rfl) ?_
  refine lv_iconst (v := 4) hC.1 hC.2.1 dJ6_bitCount_0f7a4_26 (by decide) ?_
  refine lv_iushr (v := ((b23).toUInt32 >>> ((4 : Int32).toUInt32 &&& Int32.toUInt32 31)).toInt32) hC.1 hC.2.1 dJ6_bitCount_0f7a4_27 rfl ?_
  refine lv_iadd hC.1 hC.2.1 dJ6_bitCount_0f7a4_28 ?_
  refine lv_ldcw (v := 252645135) hC.1 hC.2.1 hC.2.2.2 k267 dJ6_bitCount_0f7a4_29 ?_
  refine lv_iand hC.1 hC.2.1 dJ6_bitCount_0f7a4_32 ?_
  refine lv_topi (fun b33 eb33 => ?_)
  refine lv_istore_n (lv' := [(0, .int b33)]) hC.1 hC.2.1 dJ6_bitCount_0f7a4_33 rfl hl (by decide) rfl (fun ls hl => ?_)
  refine lv_iload_n hC.1 hC.2.1 dJ6_bitCount_0f7a4_34 rfl (lv_at hl 0 rfl) ?_
  refine lv_iload_n hC.1 hC.2.1 dJ6_bitCount_0f7a4_35 rfl (lv_at hl 0 rfl) ?_
  refine lv_bipush (v := 8) hC.1 hC.2.1 dJ6_bitCount_0f7a4_36 (by decide) ?_
  refine lv_iushr (v := ((b33).toUInt32 >>> ((8 : Int32).toUInt32 &&& Int32.toUInt32 31)).toInt32) hC.1 hC.2.1 dJ6_bitCount_0f7a4_38 rfl ?_
  refine lv_iadd hC.1 hC.2.1 dJ6_bitCount_0f7a4_39 ?_
  refine lv_topi (fun b40 eb40 => ?_)
  refine lv_istore_n (lv' := [(0, .int b40)]) hC.1 hC.2.1 dJ6_bitCount_0f7a4_40 rfl hl (by decide) rfl (fun ls hl => ?_)
  refine lv_iload_n hC.1 hC.2.1 dJ6_bitCount_0f7a4_41 rfl (lv_at hl 0 rfl) ?_
  refine lv_iload_n hC.1 hC.2.1 dJ6_bitCount_0f7a4_42 rfl (lv_at hl 0 rfl) ?_
  refine lv_bipush (v := 16) hC.1 hC.2.1 dJ6_bitCount_0f7a4_43 (by decide) ?_
  refine lv_iushr (v := ((b40).toUInt32 >>> ((16 : Int32).toUInt32 &&& Int32.toUInt32 31)).toInt32) hC.1 hC.2.1 dJ6_bitCount_0f7a4_45 rfl ?_
  refine lv_iadd hC.1 hC.2.1 dJ6_bitCount_0f7a4_46 ?_
  refine lv_topi (fun b47 eb47 => ?_)
  refine lv_istore_n (lv' := [(0, .int b47)]) hC.1 hC.2.1 dJ6_bitCount_0f7a4_47 rfl hl (by decide) rfl (fun ls hl => ?_)
  refine lv_iload_n hC.1 hC.2.1 dJ6_bitCount_0f7a4_48 rfl (lv_at hl 0 rfl) ?_
  refine lv_bipush (v := 63) hC.1 hC.2.1 dJ6_bitCount_0f7a4_49 (by decide) ?_
  refine lv_iand hC.1 hC.2.1 dJ6_bitCount_0f7a4_51 ?_
  subst eb9
  subst eb23
  subst eb33
  subst eb40
  subst eb47
  have hbc : (((((((((((((Int32.ofInt x - ((((Int32.ofInt x).toUInt32 >>> ((1 : Int32).toUInt32 &&& Int32.toUInt32 31)).toInt32) &&& 1431655765))) &&& 858993459) + ((((((Int32.ofInt x - ((((Int32.ofInt x).toUInt32 >>> ((1 : Int32).toUInt32 &&& Int32.toUInt32 31)).toInt32) &&& 1431655765)))).toUInt32 >>> ((2 : Int32).toUInt32 &&& Int32.toUInt32 31)).toInt32) &&& 858993459))) + ((((((((Int32.ofInt x - ((((Int32.ofInt x).toUInt32 >>> ((1 : Int32).toUInt32 &&& Int32.toUInt32 31)).toInt32) &&& 1431655765))) &&& 858993459) + ((((((Int32.ofInt x - ((((Int32.ofInt x).toUInt32 >>> ((1 : Int32).toUInt32 &&& Int32.toUInt32 31)).toInt32) &&& 1431655765)))).toUInt32 >>> ((2 : Int32).toUInt32 &&& Int32.toUInt32 31)).toInt32) &&& 858993459)))).toUInt32 >>> ((4 : Int32).toUInt32 &&& Int32.toUInt32 31)).toInt32)) &&& 252645135)) + (((((((((((Int32.ofInt x - ((((Int32.ofInt x).toUInt32 >>> ((1 : Int32).toUInt32 &&& Int32.toUInt32 31)).toInt32) &&& 1431655765))) &&& 858993459) + ((((((Int32.ofInt x - ((((Int32.ofInt x).toUInt32 >>> ((1 : Int32).toUInt32 &&& Int32.toUInt32 31)).toInt32) &&& 1431655765)))).toUInt32 >>> ((2 : Int32).toUInt32 &&& Int32.toUInt32 31)).toInt32) &&& 858993459))) + ((((((((Int32.ofInt x - ((((Int32.ofInt x).toUInt32 >>> ((1 : Int32).toUInt32 &&& Int32.toUInt32 31)).toInt32) &&& 1431655765))) &&& 858993459) + ((((((Int32.ofInt x - ((((Int32.ofInt x).toUInt32 >>> ((1 : Int32).toUInt32 &&& Int32.toUInt32 31)).toInt32) &&& 1431655765)))).toUInt32 >>> ((2 : Int32).toUInt32 &&& Int32.toUInt32 31)).toInt32) &&& 858993459)))).toUInt32 >>> ((4 : Int32).toUInt32 &&& Int32.toUInt32 31)).toInt32)) &&& 252645135))).toUInt32 >>> ((8 : Int32).toUInt32 &&& Int32.toUInt32 31)).toInt32))) + (((((((((((((Int32.ofInt x - ((((Int32.ofInt x).toUInt32 >>> ((1 : Int32).toUInt32 &&& Int32.toUInt32 31)).toInt32) &&& 1431655765))) &&& 858993459) + ((((((Int32.ofInt x - ((((Int32.ofInt x).toUInt32 >>> ((1 : Int32).toUInt32 &&& Int32.toUInt32 31)).toInt32) &&& 1431655765)))).toUInt32 >>> ((2 : Int32).toUInt32 &&& Int32.toUInt32 31)).toInt32) &&& 858993459))) + ((((((((Int32.ofInt x - ((((Int32.ofInt x).toUInt32 >>> ((1 : Int32).toUInt32 &&& Int32.toUInt32 31)).toInt32) &&& 1431655765))) &&& 858993459) + ((((((Int32.ofInt x - ((((Int32.ofInt x).toUInt32 >>> ((1 : Int32).toUInt32 &&& Int32.toUInt32 31)).toInt32) &&& 1431655765)))).toUInt32 >>> ((2 : Int32).toUInt32 &&& Int32.toUInt32 31)).toInt32) &&& 858993459)))).toUInt32 >>> ((4 : Int32).toUInt32 &&& Int32.toUInt32 31)).toInt32)) &&& 252645135)) + (((((((((((Int32.ofInt x - ((((Int32.ofInt x).toUInt32 >>> ((1 : Int32).toUInt32 &&& Int32.toUInt32 31)).toInt32) &&& 1431655765))) &&& 858993459) + ((((((Int32.ofInt x - ((((Int32.ofInt x).toUInt32 >>> ((1 : Int32).toUInt32 &&& Int32.toUInt32 31)).toInt32) &&& 1431655765)))).toUInt32 >>> ((2 : Int32).toUInt32 &&& Int32.toUInt32 31)).toInt32) &&& 858993459))) + ((((((((Int32.ofInt x - ((((Int32.ofInt x).toUInt32 >>> ((1 : Int32).toUInt32 &&& Int32.toUInt32 31)).toInt32) &&& 1431655765))) &&& 858993459) + ((((((Int32.ofInt x - ((((Int32.ofInt x).toUInt32 >>> ((1 : Int32).toUInt32 &&& Int32.toUInt32 31)).toInt32) &&& 1431655765)))).toUInt32 >>> ((2 : Int32).toUInt32 &&& Int32.toUInt32 31)).toInt32) &&& 858993459)))).toUInt32 >>> ((4 : Int32).toUInt32 &&& Int32.toUInt32 31)).toInt32)) &&& 252645135))).toUInt32 >>> ((8 : Int32).toUInt32 &&& Int32.toUInt32 31)).toInt32)))).toUInt32 >>> ((16 : Int32).toUInt32 &&& Int32.toUInt32 31)).toInt32))) &&& 63) = Int32.ofInt ((zz_on x.toNat 10 : Nat) : Int) := zz_bc hx
  rw [hbc]
  exact (gd_ireturn (lv := []) hC hr rfl hlk dJ6_bitCount_0f7a4_52 (by decide) ⟨_, ⟨by have h9 := zz_on_rng x.toNat 10; omega, by have h9 := zz_on_rng x.toNat 10; omega⟩, rfl, rfl, rfl, trivial⟩) hR H locs ls hP hD hS (lv_sub hl [] rfl)

abbrev rm_X3_about : Room := { frames := 7, cells := 2, slots := 12, locals := 104 }
set_option maxHeartbeats 4000000 in
set_option maxRecDepth 100000 in
theorem c_X3_about (l : Launch) (hl9 : l.stackTraces = false) (N0 : Nat) (G : zz_G) (Y : zz_Y) (a : Nat → Nat) (S : zz_S) (x y : Int) (hx : zz_R x) (hy : zz_R y) (hI : zz_IC S) : CtR l yX3_about wsX3_about rm_X3_about 2 [.ref (a 0), zz_v x, zz_v y] N0 G Y a S (zz_ab S x.toNat y) (S) ((0 ≤ x ∧ x < S 0 9) ∧ (0 ≤ y ∧ y ≤ 5)) (¬ (0 ≤ x ∧ x < S 0 9)) ((0 ≤ x ∧ x < S 0 9) ∧ ¬ (0 ≤ y ∧ y ≤ 5)) (False) := by
  refine Ct_.of (cc := cX3_about) (maxL := 4) (ret := (some .int)) (by decide) rfl (Nat.le_of_ble_eq_true rfl) ?_
  intro p e s m args below meth c hC hts hr hlk hex hF
  have hK := hF.2.1
  have w2 : ∀ w ∈ u_ws RX2 TX2 8, w.before args s = true := fun w h => hts w (List.mem_cons_of_mem _ (List.mem_append_left _ (List.mem_append_left _ (List.mem_append_right _ h))))
  have w3 : ∀ w ∈ u_ws RX3 TX3 11, w.before args s = true := fun w h => hts w (List.mem_cons_of_mem _ (List.mem_append_left _ (List.mem_append_left _ (List.mem_append_left _ (List.mem_append_right _ h)))))
  have f36 : (Cond.fieldLink RX3 36 "Grievancehall" "complaints" "[LGrievancehall$Complaint;").before args s = true := hts _ (by decide +kernel)
  have f127 : (Cond.fieldLink RX3 127 "Grievancehall" "complaintCount" "I").before args s = true := hts _ (by decide +kernel)
  have f130 : (Cond.fieldLink RX3 130 "Grievancehall$Complaint" "state" "I").before args s = true := hts _ (by decide +kernel)
  have f133 : (Cond.fieldLink RX3 133 "Grievancehall$Complaint" "file" "I").before args s = true := hts _ (by decide +kernel)
  have f141 : (Cond.fieldLink RX3 141 "Grievancehall$Complaint" "actNumber" "I").before args s = true := hts _ (by decide +kernel)
  have f159 : (Cond.fieldLink RX3 159 "Grievancehall$Complaint" "finding" "I").before args s = true := hts _ (by decide +kernel)
  have f176 : (Cond.fieldLink RX3 176 "Grievancehall$Complaint" "daysLeft" "I").before args s = true := hts _ (by decide +kernel)
  have f179 : (Cond.fieldLink RX3 179 "Grievancehall$Complaint" "people" "I").before args s = true := hts _ (by decide +kernel)
  refine gd_lveq (lv' := [(0, .ref (a 0)), (1, zz_v x), (2, zz_v y)]) rfl ?_
  obtain ⟨itc, ioc, iac, icc, itd, idc, ilc, iab, idv, iow, ikd, idy, ims, ihm, ict, iwv, irm, ipl, ian, ist, idl, ipe, ifi, ias, ihe, ifn, iod, ity⟩ := id hI
  obtain ⟨hx1, hx2⟩ := id hx
  obtain ⟨hy1, hy2⟩ := id hy
  refine gd_iload_n hC dX3_about_0 rfl (j := 1) rfl ?_
  refine gd_aload_n hC dX3_about_1 rfl (j := 0) rfl ?_
  refine gd_getI hC w3 hK (ci := 3) rfl (by decide) rfl 9 (by decide) rfl f127 rfl dX3_about_2 (fun r1 => ?_)
  obtain ⟨r1a, r1b⟩ := id r1
  refine gd_callSN (As := [zz_v x, zz_v (S 0 9)]) (rest := []) hC hF (fun hR => c_X3_needNumber l hl9 N0 G Y a (S) x (S 0 9) ⟨by omega, by omega⟩ ⟨by omega, by omega⟩) (va_cwS 2 hts gX3_about_X3_needNumber rfl rfl rfl (by decide +kernel) ⟨by decide, by decide⟩) rfl rfl (Nat.le_of_ble_eq_true rfl) dX3_about_5 ⟨by decide, by decide⟩ (fun E hx => gx_out (Y := Y) (fun x h => (hex x h).elim) hlk ⟨rfl, zz_xm (fun z => by omega) (fun z => z.elim) (fun z => z.elim) hx⟩ (by decide)) (fun q2 => ?_)
  refine gd_iload_n hC dX3_about_8 rfl (j := 2) rfl ?_
  refine gd_iconst hC dX3_about_9 ?_
  refine gd_iconst hC dX3_about_10 ?_
  refine gd_callSN (As := [zz_v y, zz_v 0, zz_v 5]) (rest := []) hC hF (fun hR => c_X3_needRange l hl9 N0 G Y a (S) y 0 5 ⟨by omega, by omega⟩ ⟨by decide, by decide⟩ ⟨by decide, by decide⟩) (va_cwS 3 hts gX3_about_X3_needRange rfl rfl rfl (by decide +kernel) ⟨by decide, by decide⟩) rfl rfl (Nat.le_of_ble_eq_true rfl) dX3_about_11 ⟨by decide, by decide⟩ (fun E hx => gx_out (Y := Y) (fun x h => (hex x h).elim) hlk ⟨rfl, zz_xm (fun z => z.elim) (fun z => by omega) (fun z => z.elim) hx⟩ (by decide)) (fun q3 => ?_)
  refine gd_aload_n hC dX3_about_14 rfl (j := 0) rfl ?_
  refine gd_getR hC w3 hK (ci := 3) rfl (by decide) rfl 8 (by decide) (j := 12) rfl f36 rfl dX3_about_15 ?_
  refine gd_iload_n hC dX3_about_18 rfl (j := 1) rfl ?_
  refine gd_aald hC hK (t := 3) (Cn := RX2) (j := x.toNat) (q := 61 + x.toNat) rfl (by decide) rfl (by omega) (by omega) (by decide) rfl dX3_about_19 ?_
  refine gd_astore_n hC dX3_about_20 rfl (by decide) (lv' := [(3, .ref (a (61 + x.toNat))), (0, .ref (a 0)), (1, zz_v x), (2, zz_v y)]) rfl ?_
  refine gd_iload_n hC dX3_about_21 rfl (j := 3) rfl ?_
  have c4 : (y < 0 ∨ 4 < y) ∨ y = 0 ∨ y = 1 ∨ y = 2 ∨ y = 3 ∨ y = 4 := by omega
  rcases c4 with c4 | c4 | c4 | c4 | c4 | c4
  · skip
    refine gd_tableOut hC dX3_about_22 ⟨by omega, by omega⟩ c4 (tgt := 93) (by decide) ?_
    refine gd_aload_n hC dX3_about_93 rfl (j := 0) rfl ?_
    refine gd_getI hC w2 hK (ci := 2) (zz_cmp (by omega)) (by omega) rfl 7 (by decide) rfl f159 rfl dX3_about_94 (fun r5 => ?_)
    obtain ⟨r5a, r5b⟩ := id r5
    exact gd_ireturn hC hr rfl hlk dX3_about_97 (by decide) ⟨_, ⟨by omega, by omega⟩, rfl, (by first | rfl | ((repeat' split) <;> first | rfl | omega)), (by unfold zz_ab; omega), (by omega)⟩
  · skip
    refine gd_tableIn hC dX3_about_22 0 c4 ⟨by decide, by decide⟩ (by decide) (by decide) rfl (tgt := 56) (by decide) ?_
    refine gd_aload_n hC dX3_about_56 rfl (j := 0) rfl ?_
    refine gd_getI hC w2 hK (ci := 2) (zz_cmp (by omega)) (by omega) rfl 1 (by decide) rfl f130 rfl dX3_about_57 (fun r6 => ?_)
    obtain ⟨r6a, r6b⟩ := id r6
    exact gd_ireturn hC hr rfl hlk dX3_about_60 (by decide) ⟨_, ⟨by omega, by omega⟩, rfl, (by first | rfl | ((repeat' split) <;> first | rfl | omega)), (by unfold zz_ab; omega), (by omega)⟩
  · skip
    refine gd_tableIn hC dX3_about_22 1 c4 ⟨by decide, by decide⟩ (by decide) (by decide) rfl (tgt := 61) (by decide) ?_
    refine gd_aload_n hC dX3_about_61 rfl (j := 0) rfl ?_
    refine gd_getI hC w2 hK (ci := 2) (zz_cmp (by omega)) (by omega) rfl 0 (by decide) rfl f141 rfl dX3_about_62 (fun r7 => ?_)
    obtain ⟨r7a, r7b⟩ := id r7
    exact gd_ireturn hC hr rfl hlk dX3_about_65 (by decide) ⟨_, ⟨by omega, by omega⟩, rfl, (by first | rfl | ((repeat' split) <;> first | rfl | omega)), (by unfold zz_ab; omega), (by omega)⟩
  · skip
    refine gd_tableIn hC dX3_about_22 2 c4 ⟨by decide, by decide⟩ (by decide) (by decide) rfl (tgt := 66) (by decide) ?_
    refine gd_aload_n hC dX3_about_66 rfl (j := 0) rfl ?_
    refine gd_getI hC w2 hK (ci := 2) (zz_cmp (by omega)) (by omega) rfl 2 (by decide) rfl f176 rfl dX3_about_67 (fun r8 => ?_)
    obtain ⟨r8a, r8b⟩ := id r8
    exact gd_ireturn hC hr rfl hlk dX3_about_70 (by decide) ⟨_, ⟨by omega, by omega⟩, rfl, (by first | rfl | ((repeat' split) <;> first | rfl | omega)), (by unfold zz_ab; omega), (by omega)⟩
  · skip
    refine gd_tableIn hC dX3_about_22 3 c4 ⟨by decide, by decide⟩ (by decide) (by decide) rfl (tgt := 71) (by decide) ?_
    refine gd_aload_n hC dX3_about_71 rfl (j := 0) rfl ?_
    refine gd_getI hC w2 hK (ci := 2) (zz_cmp (by omega)) (by omega) rfl 3 (by decide) rfl f179 rfl dX3_about_72 (fun r9 => ?_)
    obtain ⟨r9a, r9b⟩ := id r9
    have hipe := ipe x.toNat (by omega)
    refine gd_callSR (As := [zz_v (S (61 + x.toNat) 3)]) (rest := []) hC hF (fun hR => c_J6_bitCount_0f7a4 l hl9 N0 G Y a (S) (S (61 + x.toNat) 3) (by omega)) (va_cwS 1 hts gX3_about_J6_bitCount_0f7a4 rfl rfl rfl (by decide +kernel) ⟨by decide, by decide⟩) rfl rfl (Nat.le_of_ble_eq_true rfl) dX3_about_75 ⟨by decide, by decide⟩ (fun E hx => zz_xn hx) (fun q10 q10r => ?_)
    obtain ⟨q10a, q10b⟩ := id q10r
    exact gd_ireturn hC hr rfl hlk dX3_about_78 (by decide) ⟨_, ⟨by omega, by omega⟩, rfl, (by first | rfl | ((repeat' split) <;> first | rfl | omega)), (by unfold zz_ab; omega), (by omega)⟩
  · skip
    refine gd_tableIn hC dX3_about_22 4 c4 ⟨by decide, by decide⟩ (by decide) (by decide) rfl (tgt := 79) (by decide) ?_
    refine gd_aload_n hC dX3_about_79 rfl (j := 0) rfl ?_
    refine gd_getI hC w2 hK (ci := 2) (zz_cmp (by omega)) (by omega) rfl 4 (by decide) rfl f133 rfl dX3_about_80 (fun r11 => ?_)
    obtain ⟨r11a, r11b⟩ := id r11
    refine gd_iconst hC dX3_about_83 ?_
    refine gd_icmp_ne hC dX3_about_84 (tgt := 91) (by decide) ⟨by omega, by omega⟩ ⟨by decide, by decide⟩ (fun c12 => ?_) (fun c12 => ?_)
    · skip
      refine gd_iconst hC dX3_about_91 ?_
      exact gd_ireturn hC hr rfl hlk dX3_about_92 (by decide) ⟨_, ⟨by decide, by decide⟩, rfl, (by first | rfl | ((repeat' split) <;> first | rfl | omega)), (by unfold zz_ab; omega), (by omega)⟩
    · skip
      refine gd_iconst hC dX3_about_87 ?_
      refine gd_goto hC dX3_about_88 (tgt := 92) (by decide) ?_
      exact gd_ireturn hC hr rfl hlk dX3_about_92 (by decide) ⟨_, ⟨by decide, by decide⟩, rfl, (by first | rfl | ((repeat' split) <;> first | rfl | omega)), (by unfold zz_ab; omega), (by omega)⟩
