set_option maxHeartbeats 4000000 in
set_option maxRecDepth 100000 in
theorem lk_answer {p : Program} {e : Env} {s : State} {m : MethodId} {below : List Frame} {meth : Method} {c : Code} {b L : Nat} {xs : Nat → Int32} {G : zz_G} {Y : zz_Y} {a : Nat → Nat} (l : Launch) (hl9 : l.stackTraces = false) (Hq : zq_ p s m meth c b L xs G Y) {S : zz_S} {n : Nat} (h : zr_ S n) (hnL : 4 * n + 4 ≤ L) (kk : ∀ S2 : zz_S, zr_ S2 (n + 1) → zg_ p l e s m b below meth c G a (20000 + 4 * (n + 1)) S2 1596 (zv_ b a n) []) : zg_ p l e s m b below meth c G a (20000 + 4 * n) S 964 (zv_ b a n) [] := by
  obtain ⟨hC, hts, hX, hbl, hL, hF, hr, hlk⟩ := Hq
  have hK := hF.2.1
  have hn : n < 512 := by omega
  have hI := zr_IC (by omega) h
  refine gd_lveq (lv' := [(0, .ref b), (1, .ref (a 0)), (2, .ref (a 77)), (3, .ref (a 99)), (4, zz_v ((4 * n : Nat) : Int))]) rfl ?_
  refine gd_aload_n hC dL_law_964 rfl (j := 1) rfl ?_
  refine gd_aload_n hC dL_law_965 rfl (j := 0) rfl ?_
  refine gd_iload hC dL_law_966 (j := 4) rfl ?_
  refine gd_iconst hC dL_law_968 ?_
  refine gd_iadd hC dL_law_969 ?_
  refine gd_sld hC hX hbl rfl hL (j := 4 * n + 1) (by omega) (by omega) dL_law_970 ?_
  refine gd_aload_n hC dL_law_971 rfl (j := 3) rfl ?_
  refine gd_callL (As := [.ref (a 0), zz_v ((xs (4 * n + 1)).toInt), .ref (a 99)]) (rest := []) hC hF (c_L_answer l hl9 _ G Y a S ((xs (4 * n + 1)).toInt) (zz_rng _) hI) (vx_cwSW 3 hts gL_law_L_answer rfl rfl rfl (by decide +kernel) ⟨by decide, by decide⟩) rfl rfl (Nat.le_of_ble_eq_true rfl) dL_law_972 (zg_room hn (by decide)) (fun r S1 hr1 hw => ?_)
  obtain ⟨hIM, e1, S2, z0, z1, z2, hth, hou, hzr⟩ := pl_answer h hn ((xs (4 * n + 1)).toInt) (zz_rng _) hw
  refine gd_istore hC dL_law_975 (by decide) (lv' := [(5, zz_v r), (0, .ref b), (1, .ref (a 0)), (2, .ref (a 77)), (3, .ref (a 99)), (4, zz_v ((4 * n : Nat) : Int))]) rfl ?_
  refine gd_aload_n hC dL_law_977 rfl (j := 3) rfl ?_
  refine gd_aload_n hC dL_law_978 rfl (j := 1) rfl ?_
  refine gd_iload hC dL_law_979 (j := 5) rfl ?_
  refine gd_iconst hC dL_law_981 ?_
  refine gd_iadd hC dL_law_982 ?_
  refine gd_sld hC hX hbl rfl hL (j := 4 * n + 1) (by omega) (by omega) dL_law_983 ?_
  refine gd_callVR (As := [zz_v ((xs (4 * n + 1)).toInt)]) (rest := []) hC hF (fun hR => c_X4_answer l hl9 _ G Y a S1 ((xs (4 * n + 1)).toInt) (zz_rng _) hIM e1 S2 z0 z1 z2) (cwV 1 hts gL_law_X4_answer rfl rfl rfl (by decide +kernel) ⟨by decide, by decide⟩) rfl (by decide) (ci := 4) rfl rfl rfl rfl (Nat.le_of_ble_eq_true rfl) dL_law_984 (zg_room hn (by decide)) (fun E hx => zz_xn hx) (fun q qr => ?_)
  refine gd_istore hC dL_law_987 (by decide) (lv' := [(6, zz_v e1), (5, zz_v r), (0, .ref b), (1, .ref (a 0)), (2, .ref (a 77)), (3, .ref (a 99)), (4, zz_v ((4 * n : Nat) : Int))]) rfl ?_
  refine gd_aload_n hC dL_law_989 rfl (j := 4) rfl ?_
  refine gd_callVR (As := []) (rest := []) hC hF (fun hR => c_X4_thrown l hl9 _ G Y a S2) (cwV 0 hts gL_law_X4_thrown rfl rfl rfl (by decide +kernel) ⟨by decide, by decide⟩) rfl (by decide) (ci := 4) rfl rfl rfl rfl (Nat.le_of_ble_eq_true rfl) dL_law_990 (zg_room hn (by decide)) (fun E hx => zz_xn hx) (fun _ _ => ?_)
  refine gd_top (y := r) hth ?_
  refine gd_iload hC dL_law_993 (j := 1) rfl ?_
  refine gd_icmp_eq hC dL_law_995 (tgt := 1000) (by decide) hr1 hr1 (fun c1 => ?_) (fun c1 => absurd rfl c1)
  refine gd_iload hC dL_law_1000 (j := 1) rfl ?_
  refine gd_if_ne hC dL_law_1002 (tgt := 1017) (by decide) hr1 (fun c2 => ?_) (fun c2 => ?_)
  · skip
    refine gd_goto hC dL_law_1017 (tgt := 1596) (by decide) ?_
    exact gd_wide (by omega) (gd_sub [2, 3, 4, 5, 6] rfl (kk S2 hzr))
  · skip
    refine gd_aload_n hC dL_law_1005 rfl (j := 5) rfl ?_
    refine gd_iconst hC dL_law_1006 ?_
    refine gd_lald hC hK (j := 0) rfl (by decide) rfl (by decide) (by decide) dL_law_1007 (fun rl => ?_)
    refine gd_topl (y := e1) (hou c2) ?_
    refine gd_iload hC dL_law_1008 (j := 0) rfl ?_
    refine gd_i2l hC qr dL_law_1010 ?_
    refine gd_lcmp hC qr qr dL_law_1011 ?_
    refine gd_top (y := 0) (zz_cmp0 _) ?_
    refine gd_if_eq hC dL_law_1012 (tgt := 1017) (by decide) zz_r0 (fun c3 => ?_) (fun c3 => absurd rfl c3)
    refine gd_goto hC dL_law_1017 (tgt := 1596) (by decide) ?_
    exact gd_wide (by omega) (gd_sub [2, 3, 4, 5, 6] rfl (kk S2 hzr))

set_option maxHeartbeats 4000000 in
set_option maxRecDepth 100000 in
theorem lk_hear {p : Program} {e : Env} {s : State} {m : MethodId} {below : List Frame} {meth : Method} {c : Code} {b L : Nat} {xs : Nat → Int32} {G : zz_G} {Y : zz_Y} {a : Nat → Nat} (l : Launch) (hl9 : l.stackTraces = false) (Hq : zq_ p s m meth c b L xs G Y) {S : zz_S} {n : Nat} (h : zr_ S n) (hnL : 4 * n + 4 ≤ L) (kk : ∀ S2 : zz_S, zr_ S2 (n + 1) → zg_ p l e s m b below meth c G a (20000 + 4 * (n + 1)) S2 1596 (zv_ b a n) []) : zg_ p l e s m b below meth c G a (20000 + 4 * n) S 1020 (zv_ b a n) [] := by
  obtain ⟨hC, hts, hX, hbl, hL, hF, hr, hlk⟩ := Hq
  have hK := hF.2.1
  have hn : n < 512 := by omega
  have hI := zr_IC (by omega) h
  refine gd_lveq (lv' := [(0, .ref b), (1, .ref (a 0)), (2, .ref (a 77)), (3, .ref (a 99)), (4, zz_v ((4 * n : Nat) : Int))]) rfl ?_
  refine gd_aload_n hC dL_law_1020 rfl (j := 1) rfl ?_
  refine gd_aload_n hC dL_law_1021 rfl (j := 0) rfl ?_
  refine gd_iload hC dL_law_1022 (j := 4) rfl ?_
  refine gd_iconst hC dL_law_1024 ?_
  refine gd_iadd hC dL_law_1025 ?_
  refine gd_sld hC hX hbl rfl hL (j := 4 * n + 1) (by omega) (by omega) dL_law_1026 ?_
  refine gd_callL (As := [.ref (a 0), zz_v ((xs (4 * n + 1)).toInt)]) (rest := []) hC hF (c_L_hear l hl9 _ G Y a S ((xs (4 * n + 1)).toInt) (zz_rng _) hI) (vx_cwSW 2 hts gL_law_L_hear rfl rfl rfl (by decide +kernel) ⟨by decide, by decide⟩) rfl rfl (Nat.le_of_ble_eq_true rfl) dL_law_1027 (zg_room hn (by decide)) (fun r S1 hr1 hw => ?_)
  obtain ⟨hIM, S2, z0, z1, z2, hth, hzr⟩ := pl_hear h hn ((xs (4 * n + 1)).toInt) (zz_rng _) hw
  refine gd_istore hC dL_law_1030 (by decide) (lv' := [(5, zz_v r), (0, .ref b), (1, .ref (a 0)), (2, .ref (a 77)), (3, .ref (a 99)), (4, zz_v ((4 * n : Nat) : Int))]) rfl ?_
  refine gd_aload_n hC dL_law_1032 rfl (j := 3) rfl ?_
  refine gd_aload_n hC dL_law_1033 rfl (j := 1) rfl ?_
  refine gd_iload hC dL_law_1034 (j := 5) rfl ?_
  refine gd_iconst hC dL_law_1036 ?_
  refine gd_iadd hC dL_law_1037 ?_
  refine gd_sld hC hX hbl rfl hL (j := 4 * n + 1) (by omega) (by omega) dL_law_1038 ?_
  refine gd_callVN (As := [zz_v ((xs (4 * n + 1)).toInt)]) (rest := []) hC hF (fun hR => c_X4_hear l hl9 _ G Y a S1 ((xs (4 * n + 1)).toInt) (zz_rng _) hIM S2 z0 z1 z2) (cwV 1 hts gL_law_X4_hear rfl rfl rfl (by decide +kernel) ⟨by decide, by decide⟩) rfl (by decide) (ci := 4) rfl rfl rfl rfl (Nat.le_of_ble_eq_true rfl) dL_law_1039 (zg_room hn (by decide)) (fun E hx => zz_xn hx) (fun q => ?_)
  refine gd_aload_n hC dL_law_1042 rfl (j := 3) rfl ?_
  refine gd_callVR (As := []) (rest := []) hC hF (fun hR => c_X4_thrown l hl9 _ G Y a S2) (cwV 0 hts gL_law_X4_thrown rfl rfl rfl (by decide +kernel) ⟨by decide, by decide⟩) rfl (by decide) (ci := 4) rfl rfl rfl rfl (Nat.le_of_ble_eq_true rfl) dL_law_1043 (zg_room hn (by decide)) (fun E hx => zz_xn hx) (fun _ _ => ?_)
  refine gd_top (y := r) hth ?_
  refine gd_iload hC dL_law_1046 (j := 0) rfl ?_
  refine gd_icmp_eq hC dL_law_1048 (tgt := 1053) (by decide) hr1 hr1 (fun c1 => ?_) (fun c1 => absurd rfl c1)
  refine gd_goto hC dL_law_1053 (tgt := 1596) (by decide) ?_
  exact gd_wide (by omega) (gd_sub [1, 2, 3, 4, 5] rfl (kk S2 hzr))

set_option maxHeartbeats 4000000 in
set_option maxRecDepth 100000 in
theorem lk_find {p : Program} {e : Env} {s : State} {m : MethodId} {below : List Frame} {meth : Method} {c : Code} {b L : Nat} {xs : Nat → Int32} {G : zz_G} {Y : zz_Y} {a : Nat → Nat} (l : Launch) (hl9 : l.stackTraces = false) (Hq : zq_ p s m meth c b L xs G Y) {S : zz_S} {n : Nat} (h : zr_ S n) (hnL : 4 * n + 4 ≤ L) (kk : ∀ S2 : zz_S, zr_ S2 (n + 1) → zg_ p l e s m b below meth c G a (20000 + 4 * (n + 1)) S2 1596 (zv_ b a n) []) : zg_ p l e s m b below meth c G a (20000 + 4 * n) S 1056 (zv_ b a n) [] := by
  obtain ⟨hC, hts, hX, hbl, hL, hF, hr, hlk⟩ := Hq
  have hK := hF.2.1
  have hn : n < 512 := by omega
  have hI := zr_IC (by omega) h
  refine gd_lveq (lv' := [(0, .ref b), (1, .ref (a 0)), (2, .ref (a 77)), (3, .ref (a 99)), (4, zz_v ((4 * n : Nat) : Int))]) rfl ?_
  refine gd_aload_n hC dL_law_1056 rfl (j := 1) rfl ?_
  refine gd_aload_n hC dL_law_1057 rfl (j := 0) rfl ?_
  refine gd_iload hC dL_law_1058 (j := 4) rfl ?_
  refine gd_iconst hC dL_law_1060 ?_
  refine gd_iadd hC dL_law_1061 ?_
  refine gd_sld hC hX hbl rfl hL (j := 4 * n + 1) (by omega) (by omega) dL_law_1062 ?_
  refine gd_aload_n hC dL_law_1063 rfl (j := 3) rfl ?_
  refine gd_callL (As := [.ref (a 0), zz_v ((xs (4 * n + 1)).toInt), .ref (a 99)]) (rest := []) hC hF (c_L_find l hl9 _ G Y a S ((xs (4 * n + 1)).toInt) (zz_rng _) hI) (vx_cwSW 3 hts gL_law_L_find rfl rfl rfl (by decide +kernel) ⟨by decide, by decide⟩) rfl rfl (Nat.le_of_ble_eq_true rfl) dL_law_1064 (zg_room hn (by decide)) (fun r S1 hr1 hw => ?_)
  obtain ⟨hIM, e1, S2, z0, z1, z2, hth, hou, hzr⟩ := pl_find h hn ((xs (4 * n + 1)).toInt) (zz_rng _) hw
  refine gd_istore hC dL_law_1067 (by decide) (lv' := [(5, zz_v r), (0, .ref b), (1, .ref (a 0)), (2, .ref (a 77)), (3, .ref (a 99)), (4, zz_v ((4 * n : Nat) : Int))]) rfl ?_
  refine gd_aload_n hC dL_law_1069 rfl (j := 3) rfl ?_
  refine gd_aload_n hC dL_law_1070 rfl (j := 1) rfl ?_
  refine gd_iload hC dL_law_1071 (j := 5) rfl ?_
  refine gd_iconst hC dL_law_1073 ?_
  refine gd_iadd hC dL_law_1074 ?_
  refine gd_sld hC hX hbl rfl hL (j := 4 * n + 1) (by omega) (by omega) dL_law_1075 ?_
  refine gd_callVR (As := [zz_v ((xs (4 * n + 1)).toInt)]) (rest := []) hC hF (fun hR => c_X4_find l hl9 _ G Y a S1 ((xs (4 * n + 1)).toInt) (zz_rng _) hIM e1 S2 z0 z1 z2) (cwV 1 hts gL_law_X4_find rfl rfl rfl (by decide +kernel) ⟨by decide, by decide⟩) rfl (by decide) (ci := 4) rfl rfl rfl rfl (Nat.le_of_ble_eq_true rfl) dL_law_1076 (zg_room hn (by decide)) (fun E hx => zz_xn hx) (fun q qr => ?_)
  refine gd_istore hC dL_law_1079 (by decide) (lv' := [(6, zz_v e1), (5, zz_v r), (0, .ref b), (1, .ref (a 0)), (2, .ref (a 77)), (3, .ref (a 99)), (4, zz_v ((4 * n : Nat) : Int))]) rfl ?_
  refine gd_aload_n hC dL_law_1081 rfl (j := 4) rfl ?_
  refine gd_callVR (As := []) (rest := []) hC hF (fun hR => c_X4_thrown l hl9 _ G Y a S2) (cwV 0 hts gL_law_X4_thrown rfl rfl rfl (by decide +kernel) ⟨by decide, by decide⟩) rfl (by decide) (ci := 4) rfl rfl rfl rfl (Nat.le_of_ble_eq_true rfl) dL_law_1082 (zg_room hn (by decide)) (fun E hx => zz_xn hx) (fun _ _ => ?_)
  refine gd_top (y := r) hth ?_
  refine gd_iload hC dL_law_1085 (j := 1) rfl ?_
  refine gd_icmp_eq hC dL_law_1087 (tgt := 1092) (by decide) hr1 hr1 (fun c1 => ?_) (fun c1 => absurd rfl c1)
  refine gd_iload hC dL_law_1092 (j := 1) rfl ?_
  refine gd_if_ne hC dL_law_1094 (tgt := 1109) (by decide) hr1 (fun c2 => ?_) (fun c2 => ?_)
  · skip
    refine gd_goto hC dL_law_1109 (tgt := 1596) (by decide) ?_
    exact gd_wide (by omega) (gd_sub [2, 3, 4, 5, 6] rfl (kk S2 hzr))
  · skip
    refine gd_aload_n hC dL_law_1097 rfl (j := 5) rfl ?_
    refine gd_iconst hC dL_law_1098 ?_
    refine gd_lald hC hK (j := 0) rfl (by decide) rfl (by decide) (by decide) dL_law_1099 (fun rl => ?_)
    refine gd_topl (y := e1) (hou c2) ?_
    refine gd_iload hC dL_law_1100 (j := 0) rfl ?_
    refine gd_i2l hC qr dL_law_1102 ?_
    refine gd_lcmp hC qr qr dL_law_1103 ?_
    refine gd_top (y := 0) (zz_cmp0 _) ?_
    refine gd_if_eq hC dL_law_1104 (tgt := 1109) (by decide) zz_r0 (fun c3 => ?_) (fun c3 => absurd rfl c3)
    refine gd_goto hC dL_law_1109 (tgt := 1596) (by decide) ?_
    exact gd_wide (by omega) (gd_sub [2, 3, 4, 5, 6] rfl (kk S2 hzr))

set_option maxHeartbeats 4000000 in
set_option maxRecDepth 100000 in
theorem lk_remedy {p : Program} {e : Env} {s : State} {m : MethodId} {below : List Frame} {meth : Method} {c : Code} {b L : Nat} {xs : Nat → Int32} {G : zz_G} {Y : zz_Y} {a : Nat → Nat} (l : Launch) (hl9 : l.stackTraces = false) (Hq : zq_ p s m meth c b L xs G Y) {S : zz_S} {n : Nat} (h : zr_ S n) (hnL : 4 * n + 4 ≤ L) (kk : ∀ S2 : zz_S, zr_ S2 (n + 1) → zg_ p l e s m b below meth c G a (20000 + 4 * (n + 1)) S2 1596 (zv_ b a n) []) : zg_ p l e s m b below meth c G a (20000 + 4 * n) S 1112 (zv_ b a n) [] := by
  obtain ⟨hC, hts, hX, hbl, hL, hF, hr, hlk⟩ := Hq
  have hK := hF.2.1
  have hn : n < 512 := by omega
  have hI := zr_IC (by omega) h
  refine gd_lveq (lv' := [(0, .ref b), (1, .ref (a 0)), (2, .ref (a 77)), (3, .ref (a 99)), (4, zz_v ((4 * n : Nat) : Int))]) rfl ?_
  refine gd_aload_n hC dL_law_1112 rfl (j := 1) rfl ?_
  refine gd_aload_n hC dL_law_1113 rfl (j := 0) rfl ?_
  refine gd_iload hC dL_law_1114 (j := 4) rfl ?_
  refine gd_iconst hC dL_law_1116 ?_
  refine gd_iadd hC dL_law_1117 ?_
  refine gd_sld hC hX hbl rfl hL (j := 4 * n + 1) (by omega) (by omega) dL_law_1118 ?_
  refine gd_aload_n hC dL_law_1119 rfl (j := 0) rfl ?_
  refine gd_iload hC dL_law_1120 (j := 4) rfl ?_
  refine gd_iconst hC dL_law_1122 ?_
  refine gd_iadd hC dL_law_1123 ?_
  refine gd_sld hC hX hbl rfl hL (j := 4 * n + 2) (by omega) (by omega) dL_law_1124 ?_
  refine gd_aload_n hC dL_law_1125 rfl (j := 3) rfl ?_
  refine gd_callL (As := [.ref (a 0), zz_v ((xs (4 * n + 1)).toInt), zz_v ((xs (4 * n + 2)).toInt), .ref (a 99)]) (rest := []) hC hF (c_L_remedy l hl9 _ G Y a S ((xs (4 * n + 1)).toInt) ((xs (4 * n + 2)).toInt) (zz_rng _) (zz_rng _) hI) (vx_cwSW 4 hts gL_law_L_remedy rfl rfl rfl (by decide +kernel) ⟨by decide, by decide⟩) rfl rfl (Nat.le_of_ble_eq_true rfl) dL_law_1126 (zg_room hn (by decide)) (fun r S1 hr1 hw => ?_)
  obtain ⟨hIM, e1, S2, z0, z1, z2, z3, hth, hou, hzr⟩ := pl_remedy h hn ((xs (4 * n + 1)).toInt) ((xs (4 * n + 2)).toInt) (zz_rng _) (zz_rng _) hw
  refine gd_istore hC dL_law_1129 (by decide) (lv' := [(5, zz_v r), (0, .ref b), (1, .ref (a 0)), (2, .ref (a 77)), (3, .ref (a 99)), (4, zz_v ((4 * n : Nat) : Int))]) rfl ?_
  refine gd_aload_n hC dL_law_1131 rfl (j := 3) rfl ?_
  refine gd_aload_n hC dL_law_1132 rfl (j := 1) rfl ?_
  refine gd_iload hC dL_law_1133 (j := 5) rfl ?_
  refine gd_iconst hC dL_law_1135 ?_
  refine gd_iadd hC dL_law_1136 ?_
  refine gd_sld hC hX hbl rfl hL (j := 4 * n + 1) (by omega) (by omega) dL_law_1137 ?_
  refine gd_aload_n hC dL_law_1138 rfl (j := 1) rfl ?_
  refine gd_iload hC dL_law_1139 (j := 5) rfl ?_
  refine gd_iconst hC dL_law_1141 ?_
  refine gd_iadd hC dL_law_1142 ?_
  refine gd_sld hC hX hbl rfl hL (j := 4 * n + 2) (by omega) (by omega) dL_law_1143 ?_
  refine gd_callVR (As := [zz_v ((xs (4 * n + 1)).toInt), zz_v ((xs (4 * n + 2)).toInt)]) (rest := []) hC hF (fun hR => c_X4_remedy l hl9 _ G Y a S1 ((xs (4 * n + 1)).toInt) ((xs (4 * n + 2)).toInt) (zz_rng _) (zz_rng _) hIM e1 S2 z0 z1 z2 z3) (cwV 2 hts gL_law_X4_remedy rfl rfl rfl (by decide +kernel) ⟨by decide, by decide⟩) rfl (by decide) (ci := 4) rfl rfl rfl rfl (Nat.le_of_ble_eq_true rfl) dL_law_1144 (zg_room hn (by decide)) (fun E hx => zz_xn hx) (fun q qr => ?_)
  refine gd_istore hC dL_law_1147 (by decide) (lv' := [(6, zz_v e1), (5, zz_v r), (0, .ref b), (1, .ref (a 0)), (2, .ref (a 77)), (3, .ref (a 99)), (4, zz_v ((4 * n : Nat) : Int))]) rfl ?_
  refine gd_aload_n hC dL_law_1149 rfl (j := 4) rfl ?_
  refine gd_callVR (As := []) (rest := []) hC hF (fun hR => c_X4_thrown l hl9 _ G Y a S2) (cwV 0 hts gL_law_X4_thrown rfl rfl rfl (by decide +kernel) ⟨by decide, by decide⟩) rfl (by decide) (ci := 4) rfl rfl rfl rfl (Nat.le_of_ble_eq_true rfl) dL_law_1150 (zg_room hn (by decide)) (fun E hx => zz_xn hx) (fun _ _ => ?_)
  refine gd_top (y := r) hth ?_
  refine gd_iload hC dL_law_1153 (j := 1) rfl ?_
  refine gd_icmp_eq hC dL_law_1155 (tgt := 1160) (by decide) hr1 hr1 (fun c1 => ?_) (fun c1 => absurd rfl c1)
  refine gd_iload hC dL_law_1160 (j := 1) rfl ?_
  refine gd_if_ne hC dL_law_1162 (tgt := 1177) (by decide) hr1 (fun c2 => ?_) (fun c2 => ?_)
  · skip
    refine gd_goto hC dL_law_1177 (tgt := 1596) (by decide) ?_
    exact gd_wide (by omega) (gd_sub [2, 3, 4, 5, 6] rfl (kk S2 hzr))
  · skip
    refine gd_aload_n hC dL_law_1165 rfl (j := 5) rfl ?_
    refine gd_iconst hC dL_law_1166 ?_
    refine gd_lald hC hK (j := 0) rfl (by decide) rfl (by decide) (by decide) dL_law_1167 (fun rl => ?_)
    refine gd_topl (y := e1) (hou c2) ?_
    refine gd_iload hC dL_law_1168 (j := 0) rfl ?_
    refine gd_i2l hC qr dL_law_1170 ?_
    refine gd_lcmp hC qr qr dL_law_1171 ?_
    refine gd_top (y := 0) (zz_cmp0 _) ?_
    refine gd_if_eq hC dL_law_1172 (tgt := 1177) (by decide) zz_r0 (fun c3 => ?_) (fun c3 => absurd rfl c3)
    refine gd_goto hC dL_law_1177 (tgt := 1596) (by decide) ?_
    exact gd_wide (by omega) (gd_sub [2, 3, 4, 5, 6] rfl (kk S2 hzr))

set_option maxHeartbeats 4000000 in
set_option maxRecDepth 100000 in
theorem lk_pass {p : Program} {e : Env} {s : State} {m : MethodId} {below : List Frame} {meth : Method} {c : Code} {b L : Nat} {xs : Nat → Int32} {G : zz_G} {Y : zz_Y} {a : Nat → Nat} (l : Launch) (hl9 : l.stackTraces = false) (Hq : zq_ p s m meth c b L xs G Y) {S : zz_S} {n : Nat} (h : zr_ S n) (hnL : 4 * n + 4 ≤ L) (kk : ∀ S2 : zz_S, zr_ S2 (n + 1) → zg_ p l e s m b below meth c G a (20000 + 4 * (n + 1)) S2 1596 (zv_ b a n) []) : zg_ p l e s m b below meth c G a (20000 + 4 * n) S 1180 (zv_ b a n) [] := by
  obtain ⟨hC, hts, hX, hbl, hL, hF, hr, hlk⟩ := Hq
  have hK := hF.2.1
  have hn : n < 512 := by omega
  have hI := zr_IC (by omega) h
  refine gd_lveq (lv' := [(0, .ref b), (1, .ref (a 0)), (2, .ref (a 77)), (3, .ref (a 99)), (4, zz_v ((4 * n : Nat) : Int))]) rfl ?_
  refine gd_aload_n hC dL_law_1180 rfl (j := 1) rfl ?_
  refine gd_aload_n hC dL_law_1181 rfl (j := 0) rfl ?_
  refine gd_iload hC dL_law_1182 (j := 4) rfl ?_
  refine gd_iconst hC dL_law_1184 ?_
  refine gd_iadd hC dL_law_1185 ?_
  refine gd_sld hC hX hbl rfl hL (j := 4 * n + 1) (by omega) (by omega) dL_law_1186 ?_
  refine gd_aload_n hC dL_law_1187 rfl (j := 3) rfl ?_
  refine gd_callL (As := [.ref (a 0), zz_v ((xs (4 * n + 1)).toInt), .ref (a 99)]) (rest := []) hC hF (c_L_pass l hl9 _ G Y a S ((xs (4 * n + 1)).toInt) (zz_rng _) hI) (vx_cwSW 3 hts gL_law_L_pass rfl rfl rfl (by decide +kernel) ⟨by decide, by decide⟩) rfl rfl (Nat.le_of_ble_eq_true rfl) dL_law_1188 (zg_room hn (by decide)) (fun r S1 hr1 hw => ?_)
  obtain ⟨hIM, e1, S2, z0, z1, z2, hth, hou, hzr⟩ := pl_pass h hn ((xs (4 * n + 1)).toInt) (zz_rng _) hw
  refine gd_istore hC dL_law_1191 (by decide) (lv' := [(5, zz_v r), (0, .ref b), (1, .ref (a 0)), (2, .ref (a 77)), (3, .ref (a 99)), (4, zz_v ((4 * n : Nat) : Int))]) rfl ?_
  refine gd_aload_n hC dL_law_1193 rfl (j := 3) rfl ?_
  refine gd_aload_n hC dL_law_1194 rfl (j := 1) rfl ?_
  refine gd_iload hC dL_law_1195 (j := 5) rfl ?_
  refine gd_iconst hC dL_law_1197 ?_
  refine gd_iadd hC dL_law_1198 ?_
  refine gd_sld hC hX hbl rfl hL (j := 4 * n + 1) (by omega) (by omega) dL_law_1199 ?_
  refine gd_callVR (As := [zz_v ((xs (4 * n + 1)).toInt)]) (rest := []) hC hF (fun hR => c_X4_pass l hl9 _ G Y a S1 ((xs (4 * n + 1)).toInt) (zz_rng _) hIM e1 S2 z0 z1 z2) (cwV 1 hts gL_law_X4_pass rfl rfl rfl (by decide +kernel) ⟨by decide, by decide⟩) rfl (by decide) (ci := 4) rfl rfl rfl rfl (Nat.le_of_ble_eq_true rfl) dL_law_1200 (zg_room hn (by decide)) (fun E hx => zz_xn hx) (fun q qr => ?_)
  refine gd_istore hC dL_law_1203 (by decide) (lv' := [(6, zz_v e1), (5, zz_v r), (0, .ref b), (1, .ref (a 0)), (2, .ref (a 77)), (3, .ref (a 99)), (4, zz_v ((4 * n : Nat) : Int))]) rfl ?_
  refine gd_aload_n hC dL_law_1205 rfl (j := 4) rfl ?_
  refine gd_callVR (As := []) (rest := []) hC hF (fun hR => c_X4_thrown l hl9 _ G Y a S2) (cwV 0 hts gL_law_X4_thrown rfl rfl rfl (by decide +kernel) ⟨by decide, by decide⟩) rfl (by decide) (ci := 4) rfl rfl rfl rfl (Nat.le_of_ble_eq_true rfl) dL_law_1206 (zg_room hn (by decide)) (fun E hx => zz_xn hx) (fun _ _ => ?_)
  refine gd_top (y := r) hth ?_
  refine gd_iload hC dL_law_1209 (j := 1) rfl ?_
  refine gd_icmp_eq hC dL_law_1211 (tgt := 1216) (by decide) hr1 hr1 (fun c1 => ?_) (fun c1 => absurd rfl c1)
  refine gd_iload hC dL_law_1216 (j := 1) rfl ?_
  refine gd_if_ne hC dL_law_1218 (tgt := 1233) (by decide) hr1 (fun c2 => ?_) (fun c2 => ?_)
  · skip
    refine gd_goto hC dL_law_1233 (tgt := 1596) (by decide) ?_
    exact gd_wide (by omega) (gd_sub [2, 3, 4, 5, 6] rfl (kk S2 hzr))
  · skip
    refine gd_aload_n hC dL_law_1221 rfl (j := 5) rfl ?_
    refine gd_iconst hC dL_law_1222 ?_
    refine gd_lald hC hK (j := 0) rfl (by decide) rfl (by decide) (by decide) dL_law_1223 (fun rl => ?_)
    refine gd_topl (y := e1) (hou c2) ?_
    refine gd_iload hC dL_law_1224 (j := 0) rfl ?_
    refine gd_i2l hC qr dL_law_1226 ?_
    refine gd_lcmp hC qr qr dL_law_1227 ?_
    refine gd_top (y := 0) (zz_cmp0 _) ?_
    refine gd_if_eq hC dL_law_1228 (tgt := 1233) (by decide) zz_r0 (fun c3 => ?_) (fun c3 => absurd rfl c3)
    refine gd_goto hC dL_law_1233 (tgt := 1596) (by decide) ?_
    exact gd_wide (by omega) (gd_sub [2, 3, 4, 5, 6] rfl (kk S2 hzr))

set_option maxHeartbeats 4000000 in
set_option maxRecDepth 100000 in
theorem lk_about {p : Program} {e : Env} {s : State} {m : MethodId} {below : List Frame} {meth : Method} {c : Code} {b L : Nat} {xs : Nat → Int32} {G : zz_G} {Y : zz_Y} {a : Nat → Nat} (l : Launch) (hl9 : l.stackTraces = false) (Hq : zq_ p s m meth c b L xs G Y) {S : zz_S} {n : Nat} (h : zr_ S n) (hnL : 4 * n + 4 ≤ L) (kk : ∀ S2 : zz_S, zr_ S2 (n + 1) → zg_ p l e s m b below meth c G a (20000 + 4 * (n + 1)) S2 1596 (zv_ b a n) []) : zg_ p l e s m b below meth c G a (20000 + 4 * n) S 1236 (zv_ b a n) [] := by
  obtain ⟨hC, hts, hX, hbl, hL, hF, hr, hlk⟩ := Hq
  have hK := hF.2.1
  have hn : n < 512 := by omega
  have hI := zr_IC (by omega) h
  refine gd_lveq (lv' := [(0, .ref b), (1, .ref (a 0)), (2, .ref (a 77)), (3, .ref (a 99)), (4, zz_v ((4 * n : Nat) : Int))]) rfl ?_
  refine gd_aload_n hC dL_law_1236 rfl (j := 1) rfl ?_
  refine gd_aload_n hC dL_law_1237 rfl (j := 0) rfl ?_
  refine gd_iload hC dL_law_1238 (j := 4) rfl ?_
  refine gd_iconst hC dL_law_1240 ?_
  refine gd_iadd hC dL_law_1241 ?_
  refine gd_sld hC hX hbl rfl hL (j := 4 * n + 1) (by omega) (by omega) dL_law_1242 ?_
  refine gd_aload_n hC dL_law_1243 rfl (j := 0) rfl ?_
  refine gd_iload hC dL_law_1244 (j := 4) rfl ?_
  refine gd_iconst hC dL_law_1246 ?_
  refine gd_iadd hC dL_law_1247 ?_
  refine gd_sld hC hX hbl rfl hL (j := 4 * n + 2) (by omega) (by omega) dL_law_1248 ?_
  refine gd_aload_n hC dL_law_1249 rfl (j := 3) rfl ?_
  refine gd_callL (As := [.ref (a 0), zz_v ((xs (4 * n + 1)).toInt), zz_v ((xs (4 * n + 2)).toInt), .ref (a 99)]) (rest := []) hC hF (c_L_about l hl9 _ G Y a S ((xs (4 * n + 1)).toInt) ((xs (4 * n + 2)).toInt) (zz_rng _) (zz_rng _) hI) (vx_cwSW 4 hts gL_law_L_about rfl rfl rfl (by decide +kernel) ⟨by decide, by decide⟩) rfl rfl (Nat.le_of_ble_eq_true rfl) dL_law_1250 (zg_room hn (by decide)) (fun r S1 hr1 hw => ?_)
  obtain ⟨hIM, e1, S2, z0, z1, z2, z3, z4, z5, z6, z7, hth, hou, hzr⟩ := pl_about h hn ((xs (4 * n + 1)).toInt) ((xs (4 * n + 2)).toInt) (zz_rng _) (zz_rng _) hw
  refine gd_istore hC dL_law_1253 (by decide) (lv' := [(5, zz_v r), (0, .ref b), (1, .ref (a 0)), (2, .ref (a 77)), (3, .ref (a 99)), (4, zz_v ((4 * n : Nat) : Int))]) rfl ?_
  refine gd_aload_n hC dL_law_1255 rfl (j := 3) rfl ?_
  refine gd_aload_n hC dL_law_1256 rfl (j := 1) rfl ?_
  refine gd_iload hC dL_law_1257 (j := 5) rfl ?_
  refine gd_iconst hC dL_law_1259 ?_
  refine gd_iadd hC dL_law_1260 ?_
  refine gd_sld hC hX hbl rfl hL (j := 4 * n + 1) (by omega) (by omega) dL_law_1261 ?_
  refine gd_aload_n hC dL_law_1262 rfl (j := 1) rfl ?_
  refine gd_iload hC dL_law_1263 (j := 5) rfl ?_
  refine gd_iconst hC dL_law_1265 ?_
  refine gd_iadd hC dL_law_1266 ?_
  refine gd_sld hC hX hbl rfl hL (j := 4 * n + 2) (by omega) (by omega) dL_law_1267 ?_
  refine gd_callVR (As := [zz_v ((xs (4 * n + 1)).toInt), zz_v ((xs (4 * n + 2)).toInt)]) (rest := []) hC hF (fun hR => c_X4_about l hl9 _ G Y a S1 ((xs (4 * n + 1)).toInt) ((xs (4 * n + 2)).toInt) (zz_rng _) (zz_rng _) hIM e1 S2 z0 z1 z2 z3 z4 z5 z6 z7) (cwV 2 hts gL_law_X4_about rfl rfl rfl (by decide +kernel) ⟨by decide, by decide⟩) rfl (by decide) (ci := 4) rfl rfl rfl rfl (Nat.le_of_ble_eq_true rfl) dL_law_1268 (zg_room hn (by decide)) (fun E hx => zz_xn hx) (fun q qr => ?_)
  refine gd_istore hC dL_law_1271 (by decide) (lv' := [(6, zz_v e1), (5, zz_v r), (0, .ref b), (1, .ref (a 0)), (2, .ref (a 77)), (3, .ref (a 99)), (4, zz_v ((4 * n : Nat) : Int))]) rfl ?_
  refine gd_aload_n hC dL_law_1273 rfl (j := 4) rfl ?_
  refine gd_callVR (As := []) (rest := []) hC hF (fun hR => c_X4_thrown l hl9 _ G Y a S2) (cwV 0 hts gL_law_X4_thrown rfl rfl rfl (by decide +kernel) ⟨by decide, by decide⟩) rfl (by decide) (ci := 4) rfl rfl rfl rfl (Nat.le_of_ble_eq_true rfl) dL_law_1274 (zg_room hn (by decide)) (fun E hx => zz_xn hx) (fun _ _ => ?_)
  refine gd_top (y := r) hth ?_
  refine gd_iload hC dL_law_1277 (j := 1) rfl ?_
  refine gd_icmp_eq hC dL_law_1279 (tgt := 1284) (by decide) hr1 hr1 (fun c1 => ?_) (fun c1 => absurd rfl c1)
  refine gd_iload hC dL_law_1284 (j := 1) rfl ?_
  refine gd_if_ne hC dL_law_1286 (tgt := 1301) (by decide) hr1 (fun c2 => ?_) (fun c2 => ?_)
  · skip
    refine gd_goto hC dL_law_1301 (tgt := 1596) (by decide) ?_
    exact gd_wide (by omega) (gd_sub [2, 3, 4, 5, 6] rfl (kk S2 hzr))
  · skip
    refine gd_aload_n hC dL_law_1289 rfl (j := 5) rfl ?_
    refine gd_iconst hC dL_law_1290 ?_
    refine gd_lald hC hK (j := 0) rfl (by decide) rfl (by decide) (by decide) dL_law_1291 (fun rl => ?_)
    refine gd_topl (y := e1) (hou c2) ?_
    refine gd_iload hC dL_law_1292 (j := 0) rfl ?_
    refine gd_i2l hC qr dL_law_1294 ?_
    refine gd_lcmp hC qr qr dL_law_1295 ?_
    refine gd_top (y := 0) (zz_cmp0 _) ?_
    refine gd_if_eq hC dL_law_1296 (tgt := 1301) (by decide) zz_r0 (fun c3 => ?_) (fun c3 => absurd rfl c3)
    refine gd_goto hC dL_law_1301 (tgt := 1596) (by decide) ?_
    exact gd_wide (by omega) (gd_sub [2, 3, 4, 5, 6] rfl (kk S2 hzr))

set_option maxHeartbeats 4000000 in
set_option maxRecDepth 100000 in
theorem lk_reminder {p : Program} {e : Env} {s : State} {m : MethodId} {below : List Frame} {meth : Method} {c : Code} {b L : Nat} {xs : Nat → Int32} {G : zz_G} {Y : zz_Y} {a : Nat → Nat} (l : Launch) (hl9 : l.stackTraces = false) (Hq : zq_ p s m meth c b L xs G Y) {S : zz_S} {n : Nat} (h : zr_ S n) (hnL : 4 * n + 4 ≤ L) (kk : ∀ S2 : zz_S, zr_ S2 (n + 1) → zg_ p l e s m b below meth c G a (20000 + 4 * (n + 1)) S2 1596 (zv_ b a n) []) : zg_ p l e s m b below meth c G a (20000 + 4 * n) S 1304 (zv_ b a n) [] := by
  obtain ⟨hC, hts, hX, hbl, hL, hF, hr, hlk⟩ := Hq
  have hK := hF.2.1
  have hn : n < 512 := by omega
  have hI := zr_IC (by omega) h
  refine gd_lveq (lv' := [(0, .ref b), (1, .ref (a 0)), (2, .ref (a 77)), (3, .ref (a 99)), (4, zz_v ((4 * n : Nat) : Int))]) rfl ?_
  refine gd_aload_n hC dL_law_1304 rfl (j := 1) rfl ?_
  refine gd_aload_n hC dL_law_1305 rfl (j := 0) rfl ?_
  refine gd_iload hC dL_law_1306 (j := 4) rfl ?_
  refine gd_iconst hC dL_law_1308 ?_
  refine gd_iadd hC dL_law_1309 ?_
  refine gd_sld hC hX hbl rfl hL (j := 4 * n + 1) (by omega) (by omega) dL_law_1310 ?_
  refine gd_aload_n hC dL_law_1311 rfl (j := 3) rfl ?_
  refine gd_callL (As := [.ref (a 0), zz_v ((xs (4 * n + 1)).toInt), .ref (a 99)]) (rest := []) hC hF (c_L_reminder l hl9 _ G Y a S ((xs (4 * n + 1)).toInt) (zz_rng _) hI) (vx_cwSW 3 hts gL_law_L_reminder rfl rfl rfl (by decide +kernel) ⟨by decide, by decide⟩) rfl rfl (Nat.le_of_ble_eq_true rfl) dL_law_1312 (zg_room hn (by decide)) (fun r S1 hr1 hw => ?_)
  obtain ⟨hIM, e1, S2, z0, z1, z2, hth, hou, hzr⟩ := pl_reminder h hn ((xs (4 * n + 1)).toInt) (zz_rng _) hw
  refine gd_istore hC dL_law_1315 (by decide) (lv' := [(5, zz_v r), (0, .ref b), (1, .ref (a 0)), (2, .ref (a 77)), (3, .ref (a 99)), (4, zz_v ((4 * n : Nat) : Int))]) rfl ?_
  refine gd_aload_n hC dL_law_1317 rfl (j := 3) rfl ?_
  refine gd_aload_n hC dL_law_1318 rfl (j := 1) rfl ?_
  refine gd_iload hC dL_law_1319 (j := 5) rfl ?_
  refine gd_iconst hC dL_law_1321 ?_
  refine gd_iadd hC dL_law_1322 ?_
  refine gd_sld hC hX hbl rfl hL (j := 4 * n + 1) (by omega) (by omega) dL_law_1323 ?_
  refine gd_callVR (As := [zz_v ((xs (4 * n + 1)).toInt)]) (rest := []) hC hF (fun hR => c_X4_reminder l hl9 _ G Y a S1 ((xs (4 * n + 1)).toInt) (zz_rng _) hIM e1 S2 z0 z1 z2) (cwV 1 hts gL_law_X4_reminder rfl rfl rfl (by decide +kernel) ⟨by decide, by decide⟩) rfl (by decide) (ci := 4) rfl rfl rfl rfl (Nat.le_of_ble_eq_true rfl) dL_law_1324 (zg_room hn (by decide)) (fun E hx => zz_xn hx) (fun q qr => ?_)
  refine gd_istore hC dL_law_1327 (by decide) (lv' := [(6, zz_v e1), (5, zz_v r), (0, .ref b), (1, .ref (a 0)), (2, .ref (a 77)), (3, .ref (a 99)), (4, zz_v ((4 * n : Nat) : Int))]) rfl ?_
  refine gd_aload_n hC dL_law_1329 rfl (j := 4) rfl ?_
  refine gd_callVR (As := []) (rest := []) hC hF (fun hR => c_X4_thrown l hl9 _ G Y a S2) (cwV 0 hts gL_law_X4_thrown rfl rfl rfl (by decide +kernel) ⟨by decide, by decide⟩) rfl (by decide) (ci := 4) rfl rfl rfl rfl (Nat.le_of_ble_eq_true rfl) dL_law_1330 (zg_room hn (by decide)) (fun E hx => zz_xn hx) (fun _ _ => ?_)
  refine gd_top (y := r) hth ?_
  refine gd_iload hC dL_law_1333 (j := 1) rfl ?_
  refine gd_icmp_eq hC dL_law_1335 (tgt := 1340) (by decide) hr1 hr1 (fun c1 => ?_) (fun c1 => absurd rfl c1)
  refine gd_iload hC dL_law_1340 (j := 1) rfl ?_
  refine gd_if_ne hC dL_law_1342 (tgt := 1357) (by decide) hr1 (fun c2 => ?_) (fun c2 => ?_)
  · skip
    refine gd_goto hC dL_law_1357 (tgt := 1596) (by decide) ?_
    exact gd_wide (by omega) (gd_sub [2, 3, 4, 5, 6] rfl (kk S2 hzr))
  · skip
    refine gd_aload_n hC dL_law_1345 rfl (j := 5) rfl ?_
    refine gd_iconst hC dL_law_1346 ?_
    refine gd_lald hC hK (j := 0) rfl (by decide) rfl (by decide) (by decide) dL_law_1347 (fun rl => ?_)
    refine gd_topl (y := e1) (hou c2) ?_
    refine gd_iload hC dL_law_1348 (j := 0) rfl ?_
    refine gd_i2l hC qr dL_law_1350 ?_
    refine gd_lcmp hC qr qr dL_law_1351 ?_
    refine gd_top (y := 0) (zz_cmp0 _) ?_
    refine gd_if_eq hC dL_law_1352 (tgt := 1357) (by decide) zz_r0 (fun c3 => ?_) (fun c3 => absurd rfl c3)
    refine gd_goto hC dL_law_1357 (tgt := 1596) (by decide) ?_
    exact gd_wide (by omega) (gd_sub [2, 3, 4, 5, 6] rfl (kk S2 hzr))

set_option maxHeartbeats 4000000 in
set_option maxRecDepth 100000 in
theorem lk_fault {p : Program} {e : Env} {s : State} {m : MethodId} {below : List Frame} {meth : Method} {c : Code} {b L : Nat} {xs : Nat → Int32} {G : zz_G} {Y : zz_Y} {a : Nat → Nat} (l : Launch) (hl9 : l.stackTraces = false) (Hq : zq_ p s m meth c b L xs G Y) {S : zz_S} {n : Nat} (h : zr_ S n) (hnL : 4 * n + 4 ≤ L) (kk : ∀ S2 : zz_S, zr_ S2 (n + 1) → zg_ p l e s m b below meth c G a (20000 + 4 * (n + 1)) S2 1596 (zv_ b a n) []) : zg_ p l e s m b below meth c G a (20000 + 4 * n) S 1360 (zv_ b a n) [] := by
  obtain ⟨hC, hts, hX, hbl, hL, hF, hr, hlk⟩ := Hq
  have hK := hF.2.1
  have hn : n < 512 := by omega
  have hI := zr_IC (by omega) h
  refine gd_lveq (lv' := [(0, .ref b), (1, .ref (a 0)), (2, .ref (a 77)), (3, .ref (a 99)), (4, zz_v ((4 * n : Nat) : Int))]) rfl ?_
  refine gd_aload_n hC dL_law_1360 rfl (j := 1) rfl ?_
  refine gd_aload_n hC dL_law_1361 rfl (j := 0) rfl ?_
  refine gd_iload hC dL_law_1362 (j := 4) rfl ?_
  refine gd_iconst hC dL_law_1364 ?_
  refine gd_iadd hC dL_law_1365 ?_
  refine gd_sld hC hX hbl rfl hL (j := 4 * n + 1) (by omega) (by omega) dL_law_1366 ?_
  refine gd_aload_n hC dL_law_1367 rfl (j := 3) rfl ?_
  refine gd_callL (As := [.ref (a 0), zz_v ((xs (4 * n + 1)).toInt), .ref (a 99)]) (rest := []) hC hF (c_L_fault l hl9 _ G Y a S ((xs (4 * n + 1)).toInt) (zz_rng _) hI) (vx_cwSW 3 hts gL_law_L_fault rfl rfl rfl (by decide +kernel) ⟨by decide, by decide⟩) rfl rfl (Nat.le_of_ble_eq_true rfl) dL_law_1368 (zg_room hn (by decide)) (fun r S1 hr1 hw => ?_)
  obtain ⟨hIM, e1, S2, z0, z1, hth, hou, hzr⟩ := pl_fault h hn ((xs (4 * n + 1)).toInt) (zz_rng _) hw
  refine gd_istore hC dL_law_1371 (by decide) (lv' := [(5, zz_v r), (0, .ref b), (1, .ref (a 0)), (2, .ref (a 77)), (3, .ref (a 99)), (4, zz_v ((4 * n : Nat) : Int))]) rfl ?_
  refine gd_aload_n hC dL_law_1373 rfl (j := 3) rfl ?_
  refine gd_aload_n hC dL_law_1374 rfl (j := 1) rfl ?_
  refine gd_iload hC dL_law_1375 (j := 5) rfl ?_
  refine gd_iconst hC dL_law_1377 ?_
  refine gd_iadd hC dL_law_1378 ?_
  refine gd_sld hC hX hbl rfl hL (j := 4 * n + 1) (by omega) (by omega) dL_law_1379 ?_
  refine gd_callVR (As := [zz_v ((xs (4 * n + 1)).toInt)]) (rest := []) hC hF (fun hR => c_X4_fault l hl9 _ G Y a S1 ((xs (4 * n + 1)).toInt) (zz_rng _) hIM e1 S2 z0 z1) (cwV 1 hts gL_law_X4_fault rfl rfl rfl (by decide +kernel) ⟨by decide, by decide⟩) rfl (by decide) (ci := 4) rfl rfl rfl rfl (Nat.le_of_ble_eq_true rfl) dL_law_1380 (zg_room hn (by decide)) (fun E hx => zz_xn hx) (fun q qr => ?_)
  refine gd_istore hC dL_law_1383 (by decide) (lv' := [(6, zz_v e1), (5, zz_v r), (0, .ref b), (1, .ref (a 0)), (2, .ref (a 77)), (3, .ref (a 99)), (4, zz_v ((4 * n : Nat) : Int))]) rfl ?_
  refine gd_aload_n hC dL_law_1385 rfl (j := 4) rfl ?_
  refine gd_callVR (As := []) (rest := []) hC hF (fun hR => c_X4_thrown l hl9 _ G Y a S2) (cwV 0 hts gL_law_X4_thrown rfl rfl rfl (by decide +kernel) ⟨by decide, by decide⟩) rfl (by decide) (ci := 4) rfl rfl rfl rfl (Nat.le_of_ble_eq_true rfl) dL_law_1386 (zg_room hn (by decide)) (fun E hx => zz_xn hx) (fun _ _ => ?_)
  refine gd_top (y := r) hth ?_
  refine gd_iload hC dL_law_1389 (j := 1) rfl ?_
  refine gd_icmp_eq hC dL_law_1391 (tgt := 1396) (by decide) hr1 hr1 (fun c1 => ?_) (fun c1 => absurd rfl c1)
  refine gd_iload hC dL_law_1396 (j := 1) rfl ?_
  refine gd_if_ne hC dL_law_1398 (tgt := 1413) (by decide) hr1 (fun c2 => ?_) (fun c2 => ?_)
  · skip
    refine gd_goto hC dL_law_1413 (tgt := 1596) (by decide) ?_
    exact gd_wide (by omega) (gd_sub [2, 3, 4, 5, 6] rfl (kk S2 hzr))
  · skip
    refine gd_aload_n hC dL_law_1401 rfl (j := 5) rfl ?_
    refine gd_iconst hC dL_law_1402 ?_
    refine gd_lald hC hK (j := 0) rfl (by decide) rfl (by decide) (by decide) dL_law_1403 (fun rl => ?_)
    refine gd_topl (y := e1) (hou c2) ?_
    refine gd_iload hC dL_law_1404 (j := 0) rfl ?_
    refine gd_i2l hC qr dL_law_1406 ?_
    refine gd_lcmp hC qr qr dL_law_1407 ?_
    refine gd_top (y := 0) (zz_cmp0 _) ?_
    refine gd_if_eq hC dL_law_1408 (tgt := 1413) (by decide) zz_r0 (fun c3 => ?_) (fun c3 => absurd rfl c3)
    refine gd_goto hC dL_law_1413 (tgt := 1596) (by decide) ?_
    exact gd_wide (by omega) (gd_sub [2, 3, 4, 5, 6] rfl (kk S2 hzr))

set_option maxHeartbeats 4000000 in
set_option maxRecDepth 100000 in
theorem lk_likes {p : Program} {e : Env} {s : State} {m : MethodId} {below : List Frame} {meth : Method} {c : Code} {b L : Nat} {xs : Nat → Int32} {G : zz_G} {Y : zz_Y} {a : Nat → Nat} (l : Launch) (hl9 : l.stackTraces = false) (Hq : zq_ p s m meth c b L xs G Y) {S : zz_S} {n : Nat} (h : zr_ S n) (hnL : 4 * n + 4 ≤ L) (kk : ∀ S2 : zz_S, zr_ S2 (n + 1) → zg_ p l e s m b below meth c G a (20000 + 4 * (n + 1)) S2 1596 (zv_ b a n) []) : zg_ p l e s m b below meth c G a (20000 + 4 * n) S 1416 (zv_ b a n) [] := by
  obtain ⟨hC, hts, hX, hbl, hL, hF, hr, hlk⟩ := Hq
  have hK := hF.2.1
  have hn : n < 512 := by omega
  have hI := zr_IC (by omega) h
  refine gd_lveq (lv' := [(0, .ref b), (1, .ref (a 0)), (2, .ref (a 77)), (3, .ref (a 99)), (4, zz_v ((4 * n : Nat) : Int))]) rfl ?_
  refine gd_aload_n hC dL_law_1416 rfl (j := 1) rfl ?_
  refine gd_aload_n hC dL_law_1417 rfl (j := 0) rfl ?_
  refine gd_iload hC dL_law_1418 (j := 4) rfl ?_
  refine gd_iconst hC dL_law_1420 ?_
  refine gd_iadd hC dL_law_1421 ?_
  refine gd_sld hC hX hbl rfl hL (j := 4 * n + 1) (by omega) (by omega) dL_law_1422 ?_
  refine gd_aload_n hC dL_law_1423 rfl (j := 3) rfl ?_
  refine gd_callL (As := [.ref (a 0), zz_v ((xs (4 * n + 1)).toInt), .ref (a 99)]) (rest := []) hC hF (c_L_likes l hl9 _ G Y a S ((xs (4 * n + 1)).toInt) (zz_rng _) hI) (vx_cwSW 3 hts gL_law_L_likes rfl rfl rfl (by decide +kernel) ⟨by decide, by decide⟩) rfl rfl (Nat.le_of_ble_eq_true rfl) dL_law_1424 (zg_room hn (by decide)) (fun r S1 hr1 hw => ?_)
  obtain ⟨hIM, e1, S2, z0, z1, hth, hou, hzr⟩ := pl_likes h hn ((xs (4 * n + 1)).toInt) (zz_rng _) hw
  refine gd_istore hC dL_law_1427 (by decide) (lv' := [(5, zz_v r), (0, .ref b), (1, .ref (a 0)), (2, .ref (a 77)), (3, .ref (a 99)), (4, zz_v ((4 * n : Nat) : Int))]) rfl ?_
  refine gd_aload_n hC dL_law_1429 rfl (j := 3) rfl ?_
  refine gd_aload_n hC dL_law_1430 rfl (j := 1) rfl ?_
  refine gd_iload hC dL_law_1431 (j := 5) rfl ?_
  refine gd_iconst hC dL_law_1433 ?_
  refine gd_iadd hC dL_law_1434 ?_
  refine gd_sld hC hX hbl rfl hL (j := 4 * n + 1) (by omega) (by omega) dL_law_1435 ?_
  refine gd_callVR (As := [zz_v ((xs (4 * n + 1)).toInt)]) (rest := []) hC hF (fun hR => c_X4_likes l hl9 _ G Y a S1 ((xs (4 * n + 1)).toInt) (zz_rng _) hIM e1 S2 z0 z1) (cwV 1 hts gL_law_X4_likes rfl rfl rfl (by decide +kernel) ⟨by decide, by decide⟩) rfl (by decide) (ci := 4) rfl rfl rfl rfl (Nat.le_of_ble_eq_true rfl) dL_law_1436 (zg_room hn (by decide)) (fun E hx => zz_xn hx) (fun q qr => ?_)
  refine gd_istore hC dL_law_1439 (by decide) (lv' := [(6, zz_v e1), (5, zz_v r), (0, .ref b), (1, .ref (a 0)), (2, .ref (a 77)), (3, .ref (a 99)), (4, zz_v ((4 * n : Nat) : Int))]) rfl ?_
  refine gd_aload_n hC dL_law_1441 rfl (j := 4) rfl ?_
  refine gd_callVR (As := []) (rest := []) hC hF (fun hR => c_X4_thrown l hl9 _ G Y a S2) (cwV 0 hts gL_law_X4_thrown rfl rfl rfl (by decide +kernel) ⟨by decide, by decide⟩) rfl (by decide) (ci := 4) rfl rfl rfl rfl (Nat.le_of_ble_eq_true rfl) dL_law_1442 (zg_room hn (by decide)) (fun E hx => zz_xn hx) (fun _ _ => ?_)
  refine gd_top (y := r) hth ?_
  refine gd_iload hC dL_law_1445 (j := 1) rfl ?_
  refine gd_icmp_eq hC dL_law_1447 (tgt := 1452) (by decide) hr1 hr1 (fun c1 => ?_) (fun c1 => absurd rfl c1)
  refine gd_iload hC dL_law_1452 (j := 1) rfl ?_
  refine gd_if_ne hC dL_law_1454 (tgt := 1469) (by decide) hr1 (fun c2 => ?_) (fun c2 => ?_)
  · skip
    refine gd_goto hC dL_law_1469 (tgt := 1596) (by decide) ?_
    exact gd_wide (by omega) (gd_sub [2, 3, 4, 5, 6] rfl (kk S2 hzr))
  · skip
    refine gd_aload_n hC dL_law_1457 rfl (j := 5) rfl ?_
    refine gd_iconst hC dL_law_1458 ?_
    refine gd_lald hC hK (j := 0) rfl (by decide) rfl (by decide) (by decide) dL_law_1459 (fun rl => ?_)
    refine gd_topl (y := e1) (hou c2) ?_
    refine gd_iload hC dL_law_1460 (j := 0) rfl ?_
    refine gd_i2l hC qr dL_law_1462 ?_
    refine gd_lcmp hC qr qr dL_law_1463 ?_
    refine gd_top (y := 0) (zz_cmp0 _) ?_
    refine gd_if_eq hC dL_law_1464 (tgt := 1469) (by decide) zz_r0 (fun c3 => ?_) (fun c3 => absurd rfl c3)
    refine gd_goto hC dL_law_1469 (tgt := 1596) (by decide) ?_
    exact gd_wide (by omega) (gd_sub [2, 3, 4, 5, 6] rfl (kk S2 hzr))

set_option maxHeartbeats 4000000 in
set_option maxRecDepth 100000 in
theorem lk_remedied {p : Program} {e : Env} {s : State} {m : MethodId} {below : List Frame} {meth : Method} {c : Code} {b L : Nat} {xs : Nat → Int32} {G : zz_G} {Y : zz_Y} {a : Nat → Nat} (l : Launch) (hl9 : l.stackTraces = false) (Hq : zq_ p s m meth c b L xs G Y) {S : zz_S} {n : Nat} (h : zr_ S n) (hnL : 4 * n + 4 ≤ L) (kk : ∀ S2 : zz_S, zr_ S2 (n + 1) → zg_ p l e s m b below meth c G a (20000 + 4 * (n + 1)) S2 1596 (zv_ b a n) []) : zg_ p l e s m b below meth c G a (20000 + 4 * n) S 1472 (zv_ b a n) [] := by
  obtain ⟨hC, hts, hX, hbl, hL, hF, hr, hlk⟩ := Hq
  have hK := hF.2.1
  have hn : n < 512 := by omega
  have hI := zr_IC (by omega) h
  refine gd_lveq (lv' := [(0, .ref b), (1, .ref (a 0)), (2, .ref (a 77)), (3, .ref (a 99)), (4, zz_v ((4 * n : Nat) : Int))]) rfl ?_
  refine gd_aload_n hC dL_law_1472 rfl (j := 1) rfl ?_
  refine gd_aload_n hC dL_law_1473 rfl (j := 0) rfl ?_
  refine gd_iload hC dL_law_1474 (j := 4) rfl ?_
  refine gd_iconst hC dL_law_1476 ?_
  refine gd_iadd hC dL_law_1477 ?_
  refine gd_sld hC hX hbl rfl hL (j := 4 * n + 1) (by omega) (by omega) dL_law_1478 ?_
  refine gd_aload_n hC dL_law_1479 rfl (j := 3) rfl ?_
  refine gd_callL (As := [.ref (a 0), zz_v ((xs (4 * n + 1)).toInt), .ref (a 99)]) (rest := []) hC hF (c_L_remedied l hl9 _ G Y a S ((xs (4 * n + 1)).toInt) (zz_rng _) hI) (vx_cwSW 3 hts gL_law_L_remedied rfl rfl rfl (by decide +kernel) ⟨by decide, by decide⟩) rfl rfl (Nat.le_of_ble_eq_true rfl) dL_law_1480 (zg_room hn (by decide)) (fun r S1 hr1 hw => ?_)
  obtain ⟨hIM, e1, S2, z0, z1, hth, hou, hzr⟩ := pl_remedied h hn ((xs (4 * n + 1)).toInt) (zz_rng _) hw
  refine gd_istore hC dL_law_1483 (by decide) (lv' := [(5, zz_v r), (0, .ref b), (1, .ref (a 0)), (2, .ref (a 77)), (3, .ref (a 99)), (4, zz_v ((4 * n : Nat) : Int))]) rfl ?_
  refine gd_aload_n hC dL_law_1485 rfl (j := 3) rfl ?_
  refine gd_aload_n hC dL_law_1486 rfl (j := 1) rfl ?_
  refine gd_iload hC dL_law_1487 (j := 5) rfl ?_
  refine gd_iconst hC dL_law_1489 ?_
  refine gd_iadd hC dL_law_1490 ?_
  refine gd_sld hC hX hbl rfl hL (j := 4 * n + 1) (by omega) (by omega) dL_law_1491 ?_
  refine gd_callVR (As := [zz_v ((xs (4 * n + 1)).toInt)]) (rest := []) hC hF (fun hR => c_X4_remedied l hl9 _ G Y a S1 ((xs (4 * n + 1)).toInt) (zz_rng _) hIM e1 S2 z0 z1) (cwV 1 hts gL_law_X4_remedied rfl rfl rfl (by decide +kernel) ⟨by decide, by decide⟩) rfl (by decide) (ci := 4) rfl rfl rfl rfl (Nat.le_of_ble_eq_true rfl) dL_law_1492 (zg_room hn (by decide)) (fun E hx => zz_xn hx) (fun q qr => ?_)
  refine gd_istore hC dL_law_1495 (by decide) (lv' := [(6, zz_v e1), (5, zz_v r), (0, .ref b), (1, .ref (a 0)), (2, .ref (a 77)), (3, .ref (a 99)), (4, zz_v ((4 * n : Nat) : Int))]) rfl ?_
  refine gd_aload_n hC dL_law_1497 rfl (j := 4) rfl ?_
  refine gd_callVR (As := []) (rest := []) hC hF (fun hR => c_X4_thrown l hl9 _ G Y a S2) (cwV 0 hts gL_law_X4_thrown rfl rfl rfl (by decide +kernel) ⟨by decide, by decide⟩) rfl (by decide) (ci := 4) rfl rfl rfl rfl (Nat.le_of_ble_eq_true rfl) dL_law_1498 (zg_room hn (by decide)) (fun E hx => zz_xn hx) (fun _ _ => ?_)
  refine gd_top (y := r) hth ?_
  refine gd_iload hC dL_law_1501 (j := 1) rfl ?_
  refine gd_icmp_eq hC dL_law_1503 (tgt := 1508) (by decide) hr1 hr1 (fun c1 => ?_) (fun c1 => absurd rfl c1)
  refine gd_iload hC dL_law_1508 (j := 1) rfl ?_
  refine gd_if_ne hC dL_law_1510 (tgt := 1525) (by decide) hr1 (fun c2 => ?_) (fun c2 => ?_)
  · skip
    refine gd_goto hC dL_law_1525 (tgt := 1596) (by decide) ?_
    exact gd_wide (by omega) (gd_sub [2, 3, 4, 5, 6] rfl (kk S2 hzr))
  · skip
    refine gd_aload_n hC dL_law_1513 rfl (j := 5) rfl ?_
    refine gd_iconst hC dL_law_1514 ?_
    refine gd_lald hC hK (j := 0) rfl (by decide) rfl (by decide) (by decide) dL_law_1515 (fun rl => ?_)
    refine gd_topl (y := e1) (hou c2) ?_
    refine gd_iload hC dL_law_1516 (j := 0) rfl ?_
    refine gd_i2l hC qr dL_law_1518 ?_
    refine gd_lcmp hC qr qr dL_law_1519 ?_
    refine gd_top (y := 0) (zz_cmp0 _) ?_
    refine gd_if_eq hC dL_law_1520 (tgt := 1525) (by decide) zz_r0 (fun c3 => ?_) (fun c3 => absurd rfl c3)
    refine gd_goto hC dL_law_1525 (tgt := 1596) (by decide) ?_
    exact gd_wide (by omega) (gd_sub [2, 3, 4, 5, 6] rfl (kk S2 hzr))

set_option maxHeartbeats 4000000 in
set_option maxRecDepth 100000 in
theorem lk_gains {p : Program} {e : Env} {s : State} {m : MethodId} {below : List Frame} {meth : Method} {c : Code} {b L : Nat} {xs : Nat → Int32} {G : zz_G} {Y : zz_Y} {a : Nat → Nat} (l : Launch) (hl9 : l.stackTraces = false) (Hq : zq_ p s m meth c b L xs G Y) {S : zz_S} {n : Nat} (h : zr_ S n) (hnL : 4 * n + 4 ≤ L) (kk : ∀ S2 : zz_S, zr_ S2 (n + 1) → zg_ p l e s m b below meth c G a (20000 + 4 * (n + 1)) S2 1596 (zv_ b a n) []) : zg_ p l e s m b below meth c G a (20000 + 4 * n) S 1528 (zv_ b a n) [] := by
  obtain ⟨hC, hts, hX, hbl, hL, hF, hr, hlk⟩ := Hq
  have hK := hF.2.1
  have hn : n < 512 := by omega
  have hI := zr_IC (by omega) h
  refine gd_lveq (lv' := [(0, .ref b), (1, .ref (a 0)), (2, .ref (a 77)), (3, .ref (a 99)), (4, zz_v ((4 * n : Nat) : Int))]) rfl ?_
  refine gd_aload_n hC dL_law_1528 rfl (j := 1) rfl ?_
  refine gd_aload_n hC dL_law_1529 rfl (j := 0) rfl ?_
  refine gd_iload hC dL_law_1530 (j := 4) rfl ?_
  refine gd_iconst hC dL_law_1532 ?_
  refine gd_iadd hC dL_law_1533 ?_
  refine gd_sld hC hX hbl rfl hL (j := 4 * n + 1) (by omega) (by omega) dL_law_1534 ?_
  refine gd_aload_n hC dL_law_1535 rfl (j := 0) rfl ?_
  refine gd_iload hC dL_law_1536 (j := 4) rfl ?_
  refine gd_iconst hC dL_law_1538 ?_
  refine gd_iadd hC dL_law_1539 ?_
  refine gd_sld hC hX hbl rfl hL (j := 4 * n + 2) (by omega) (by omega) dL_law_1540 ?_
  refine gd_aload_n hC dL_law_1541 rfl (j := 3) rfl ?_
  refine gd_callL (As := [.ref (a 0), zz_v ((xs (4 * n + 1)).toInt), zz_v ((xs (4 * n + 2)).toInt), .ref (a 99)]) (rest := []) hC hF (c_L_gains l hl9 _ G Y a S ((xs (4 * n + 1)).toInt) ((xs (4 * n + 2)).toInt) (zz_rng _) (zz_rng _) hI) (vx_cwSW 4 hts gL_law_L_gains rfl rfl rfl (by decide +kernel) ⟨by decide, by decide⟩) rfl rfl (Nat.le_of_ble_eq_true rfl) dL_law_1542 (zg_room hn (by decide)) (fun r S1 hr1 hw => ?_)
  obtain ⟨hIM, e1, S2, z0, z1, z2, hth, hou, hzr⟩ := pl_gains h hn ((xs (4 * n + 1)).toInt) ((xs (4 * n + 2)).toInt) (zz_rng _) (zz_rng _) hw
  refine gd_istore hC dL_law_1545 (by decide) (lv' := [(5, zz_v r), (0, .ref b), (1, .ref (a 0)), (2, .ref (a 77)), (3, .ref (a 99)), (4, zz_v ((4 * n : Nat) : Int))]) rfl ?_
  refine gd_aload_n hC dL_law_1547 rfl (j := 3) rfl ?_
  refine gd_aload_n hC dL_law_1548 rfl (j := 1) rfl ?_
  refine gd_iload hC dL_law_1549 (j := 5) rfl ?_
  refine gd_iconst hC dL_law_1551 ?_
  refine gd_iadd hC dL_law_1552 ?_
  refine gd_sld hC hX hbl rfl hL (j := 4 * n + 1) (by omega) (by omega) dL_law_1553 ?_
  refine gd_aload_n hC dL_law_1554 rfl (j := 1) rfl ?_
  refine gd_iload hC dL_law_1555 (j := 5) rfl ?_
  refine gd_iconst hC dL_law_1557 ?_
  refine gd_iadd hC dL_law_1558 ?_
  refine gd_sld hC hX hbl rfl hL (j := 4 * n + 2) (by omega) (by omega) dL_law_1559 ?_
  refine gd_callVR (As := [zz_v ((xs (4 * n + 1)).toInt), zz_v ((xs (4 * n + 2)).toInt)]) (rest := []) hC hF (fun hR => c_X4_gains l hl9 _ G Y a S1 ((xs (4 * n + 1)).toInt) ((xs (4 * n + 2)).toInt) (zz_rng _) (zz_rng _) hIM e1 S2 z0 z1 z2) (cwV 2 hts gL_law_X4_gains rfl rfl rfl (by decide +kernel) ⟨by decide, by decide⟩) rfl (by decide) (ci := 4) rfl rfl rfl rfl (Nat.le_of_ble_eq_true rfl) dL_law_1560 (zg_room hn (by decide)) (fun E hx => zz_xn hx) (fun q qr => ?_)
  refine gd_istore hC dL_law_1563 (by decide) (lv' := [(6, zz_v e1), (5, zz_v r), (0, .ref b), (1, .ref (a 0)), (2, .ref (a 77)), (3, .ref (a 99)), (4, zz_v ((4 * n : Nat) : Int))]) rfl ?_
  refine gd_aload_n hC dL_law_1565 rfl (j := 4) rfl ?_
  refine gd_callVR (As := []) (rest := []) hC hF (fun hR => c_X4_thrown l hl9 _ G Y a S2) (cwV 0 hts gL_law_X4_thrown rfl rfl rfl (by decide +kernel) ⟨by decide, by decide⟩) rfl (by decide) (ci := 4) rfl rfl rfl rfl (Nat.le_of_ble_eq_true rfl) dL_law_1566 (zg_room hn (by decide)) (fun E hx => zz_xn hx) (fun _ _ => ?_)
  refine gd_top (y := r) hth ?_
  refine gd_iload hC dL_law_1569 (j := 1) rfl ?_
  refine gd_icmp_eq hC dL_law_1571 (tgt := 1576) (by decide) hr1 hr1 (fun c1 => ?_) (fun c1 => absurd rfl c1)
  refine gd_iload hC dL_law_1576 (j := 1) rfl ?_
  refine gd_if_ne hC dL_law_1578 (tgt := 1593) (by decide) hr1 (fun c2 => ?_) (fun c2 => ?_)
  · skip
    refine gd_goto hC dL_law_1593 (tgt := 1596) (by decide) ?_
    exact gd_wide (by omega) (gd_sub [2, 3, 4, 5, 6] rfl (kk S2 hzr))
  · skip
    refine gd_aload_n hC dL_law_1581 rfl (j := 5) rfl ?_
    refine gd_iconst hC dL_law_1582 ?_
    refine gd_lald hC hK (j := 0) rfl (by decide) rfl (by decide) (by decide) dL_law_1583 (fun rl => ?_)
    refine gd_topl (y := e1) (hou c2) ?_
    refine gd_iload hC dL_law_1584 (j := 0) rfl ?_
    refine gd_i2l hC qr dL_law_1586 ?_
    refine gd_lcmp hC qr qr dL_law_1587 ?_
    refine gd_top (y := 0) (zz_cmp0 _) ?_
    refine gd_if_eq hC dL_law_1588 (tgt := 1593) (by decide) zz_r0 (fun c3 => ?_) (fun c3 => absurd rfl c3)
    refine gd_goto hC dL_law_1593 (tgt := 1596) (by decide) ?_
    exact gd_wide (by omega) (gd_sub [2, 3, 4, 5, 6] rfl (kk S2 hzr))
