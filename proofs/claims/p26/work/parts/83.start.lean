theorem zc_0 {Z : va_W} {a : Nat → Nat} {E : Nat → va_E} : zc_W Z a E 0 = Z := List.append_nil Z
theorem cd_shift {p : Program} {l : Launch} {e : Env} {R : Room} {s : State} {m : MethodId} {args : Array Value} {below : List Frame} {meth : Method} {c : Code} {Q : State → Prop} {N0 : Nat} {D : va_G} {Z : va_W} {nL k ms n : Nat} {a : Nat → Nat} {E : Nat → va_E} {pc : Nat} {lv : List (Nat × Value)} {st : List Value} (kk : Cd_ p l e R s m args below meth c Q N0 (D, zc_W Z a E n) nL k ms 0 (fun _ => 0) (fun _ => .inr (0, [])) pc lv st) : Cd_ p l e R s m args below meth c Q N0 (D, Z) nL k ms n a E pc lv st := fun H locs ls hP hD hS hl => kk H locs ls (by rw [zc_0]; exact hP) (by rw [zc_0]; exact hD) hS hl
set_option maxHeartbeats 4000000 in
set_option maxRecDepth 100000 in
/-- the law, from its first words to its loop -/
theorem zs_pre {p : Program} {e : Env} {s : State} {m : MethodId} {below : List Frame} {meth : Method} {c : Code} {b L : Nat} {xs : Nat → Int32} {G : zz_G} {Y : zz_Y} {a : Nat → Nat} {ad : Nat} (l : Launch) (hl9 : l.stackTraces = false) (Hq : zq_ p s m meth c b L xs G Y) : zg_ p l e s m b below meth c G a ad 1300 zs0 zs_v 20 [(0, .ref b), (1, .ref (a 0)), (2, .ref (a 77)), (3, .ref ad)] [] := by
  obtain ⟨hC, hts, hX, hbl, hL, hF, hr, hlk⟩ := id Hq
  have hIC : zz_IC zs0 := zi_IC (by omega) zs0_i
  have hV := zs0_v
  refine ge_aload_n hC dL_law_20 rfl (j := 1) rfl ?_
  refine ge_aload_n hC dL_law_21 rfl (j := 3) rfl ?_
  refine ge_refused (rest := []) hl9 hC hF hIC hV (by decide) (by decide) (va_cwS 2 hts gL_law_L_refused rfl rfl rfl (by decide +kernel) ⟨by decide, by decide⟩) rfl (Nat.le_of_ble_eq_true rfl) dL_law_22 ⟨show _ ≤ 600130 by omega, show _ ≤ 7301080 by omega⟩ ?_
  refine ge_istore hC dL_law_25 (by decide) (lv' := [(4, zz_v 1), (0, .ref b), (1, .ref (a 0)), (2, .ref (a 77)), (3, .ref ad)]) rfl ?_
  refine ge_iconst hC dL_law_27 ?_
  refine ge_istore hC dL_law_28 (by decide) (lv' := [(5, zz_v 0), (4, zz_v 1), (0, .ref b), (1, .ref (a 0)), (2, .ref (a 77)), (3, .ref ad)]) rfl ?_
  refine ge_sub [2, 3, 4, 5, 1, 0] (lv' := zv_ b a ad 0) rfl ?_
  exact ge_wide (by omega) (lw_loop l hl9 Hq 120 0 zs0 zs_v rfl zs0_i zs0_v)
set_option maxHeartbeats 4000000 in
set_option maxRecDepth 100000 in
/-- the law, from its entry -/
theorem whole_start {p : Program} {e : Env} {s : State} {m : MethodId} {below : List Frame} {meth : Method} {c : Code} (l : Launch) (hflags : l.flags = flags0) {b L : Nat} {xs : Nat → Int32} (hL : L ≤ 260) (C0 : lw_At p s m meth c b L xs) : W p l e room_1 s m #[Value.ref b] below meth c s.heap [] 0 0 (lw_Z below #[Value.ref b] s) (entryFrame m ([Value.ref b] : List Value).toArray 9) := by
  obtain ⟨hx, hb, hr, hml, hown, hts, hX, hbl, hlocks, hgv⟩ := C0
  have hl9 : l.stackTraces = false := by
    unfold Launch.stackTraces
    rw [hflags]
    decide +kernel
  obtain ⟨Y, hE⟩ := zs_env hts hgv
  obtain ⟨G0, hK0⟩ := zs_know hts
  obtain ⟨G, hG⟩ : ∃ G : zz_G, G = (G0.1, G0.2.1, []) := ⟨_, rfl⟩
  have hK : zc_K G s := by rw [hG]; exact hK0
  have hG2 : G = (G.1, G.2.1, []) := by rw [hG]
  have hC : zz_C p c code 9 s m RL := ⟨hx, hb, hml, hown⟩
  have hts2 : ∀ w ∈ wsL_law, w.before #[Value.ref b] s = true := fun w h => hts w (wsL_law_in w h)
  have hF : zz_F s s.heap.size G Y := ⟨Nat.le_refl _, hK.1, hE⟩
  have Hq : zq_ p s m meth c b L xs G Y := ⟨hC, hts2, hX, hbl, hL, hF, hr, hlocks⟩
  have hN : s.heap.size ≤ s.heap.size := Nat.le_refl _
  have w3 : ∀ w ∈ u_ws RX3 TX3 11, w.before #[Value.ref b] s = true := fun w h => hts w (inX3 w h)
  have hl := lv_entry ([.ref b]) (n := 9) (Nat.le_of_ble_eq_true rfl)
  rw [lg_entry_eq]
  generalize (lg_sl ([.ref b]) ++ List.replicate (9 - (lg_sl ([.ref b])).length) Slot.unset).toArray = ls at hl ⊢
  have hl : lv_has ls 9 [(0, .ref b)] := hl
  have K0 : Cd_ p l e room_1 s m #[Value.ref b] below meth c (lw_Z below #[Value.ref b] s) s.heap.size (G.1, ([] : va_W)) 9 0 0 0 (fun _ => 0) (fun _ => .inr (0, [])) 0 [(0, .ref b)] [] := by
    refine cd_new hC (C := RX3) (T := TX3) (N := 11) (ci := 3) (fs := [.null, zz_v 0, .null, zz_v 0, .null, .null, .null, zz_v 0, .null, zz_v 0, zz_v 0]) hN w3 tyX3 tyX3_ok (hts (.classLink RL 25 RX3) (by decide +kernel)) (hts (.instantiable RX3 11) (by decide +kernel)) (hts (.initialized RX3) (by decide +kernel)) hK.1 rfl (fun j hj => by rcases (show j = 0 ∨ j = 1 ∨ j = 2 ∨ j = 3 ∨ j = 4 ∨ j = 5 ∨ j = 6 ∨ j = 7 ∨ j = 8 ∨ j = 9 ∨ j = 10 by omega) with rfl | rfl | rfl | rfl | rfl | rfl | rfl | rfl | rfl | rfl | rfl <;> rfl) (Nat.le_of_ble_eq_true rfl) (Nat.le_of_ble_eq_true rfl) dL_law_0 (fun q0 => ?_)
    refine cd_num (k' := 1) (ms' := 11) (n' := 1) rfl rfl rfl ?_
    refine cd_dup hC dL_law_3 rfl ?_
    refine cd_callI (G := (G.1, G.2.1, [])) (As := []) (rest := [.ref q0]) rfl hC hN hK (Kt_.av (va_up_self _ _ _) (c_X3_init l _ (G.1, G.2.1, []) _ _ (va_up_self _ _ _))) (cwI 0 hts2 gL_law_X3_init rfl rfl rfl (hts (.initialized RX3) (by decide +kernel)) (hts (.methodLink RL 138 yX3_init) (by decide +kernel)) (hts (.instanceMethod yX3_init) (by decide +kernel)) rfl (by decide +kernel) ⟨Nat.le_of_ble_eq_true rfl, Nat.le_of_ble_eq_true rfl⟩) rfl rfl (Nat.le_of_ble_eq_true rfl) dL_law_4 ⟨Nat.le_of_ble_eq_true rfl, Nat.le_of_ble_eq_true rfl⟩ (fun a1 E1 h1 => ?_)
    refine cd_num (k' := 77) (ms' := 3732) (n' := 77) rfl rfl rfl ?_
    obtain ⟨h10, h13⟩ := h1
    have h13 : zs_3 G a1 E1 := h13
    refine cd_astore_n hC dL_law_7 rfl (by decide) (lv' := [(1, .ref q0), (0, .ref b)]) rfl ?_
    refine cd_shift ?_
    refine cd_new hC (C := RX3) (T := TX3) (N := 11) (ci := 3) (fs := [.null, zz_v 0, .null, zz_v 0, .null, .null, .null, zz_v 0, .null, zz_v 0, zz_v 0]) hN w3 tyX3 tyX3_ok (hts (.classLink RL 25 RX3) (by decide +kernel)) (hts (.instantiable RX3 11) (by decide +kernel)) (hts (.initialized RX3) (by decide +kernel)) hK.1 rfl (fun j hj => by rcases (show j = 0 ∨ j = 1 ∨ j = 2 ∨ j = 3 ∨ j = 4 ∨ j = 5 ∨ j = 6 ∨ j = 7 ∨ j = 8 ∨ j = 9 ∨ j = 10 by omega) with rfl | rfl | rfl | rfl | rfl | rfl | rfl | rfl | rfl | rfl | rfl <;> rfl) (Nat.le_of_ble_eq_true rfl) (Nat.le_of_ble_eq_true rfl) dL_law_8 (fun q1 => ?_)
    refine cd_num (k' := 78) (ms' := 3743) (n' := 1) rfl rfl rfl ?_
    refine cd_dup hC dL_law_11 rfl ?_
    refine cd_callI (G := (G.1, G.2.1, zc_W [] a1 E1 77)) (As := []) (rest := [.ref q1]) rfl hC hN hK (Kt_.av (va_up_self _ _ _) (c_X3_init l _ (G.1, G.2.1, zc_W [] a1 E1 77) _ _ (va_up_self _ _ _))) (cwI 0 hts2 gL_law_X3_init rfl rfl rfl (hts (.initialized RX3) (by decide +kernel)) (hts (.methodLink RL 138 yX3_init) (by decide +kernel)) (hts (.instanceMethod yX3_init) (by decide +kernel)) rfl (by decide +kernel) ⟨Nat.le_of_ble_eq_true rfl, Nat.le_of_ble_eq_true rfl⟩) rfl rfl (Nat.le_of_ble_eq_true rfl) dL_law_12 ⟨Nat.le_of_ble_eq_true rfl, Nat.le_of_ble_eq_true rfl⟩ (fun a2 E2 h2 => ?_)
    refine cd_num (k' := 154) (ms' := 7464) (n' := 77) rfl rfl rfl ?_
    obtain ⟨h20, h23⟩ := h2
    have h23 : zs_3 G a2 E2 := h23
    refine cd_astore_n hC dL_law_15 rfl (by decide) (lv' := [(2, .ref q1), (1, .ref q0), (0, .ref b)]) rfl ?_
    refine cd_iconst hC dL_law_16 ?_
    refine cd_newa hC (G := (G.1, G.2.1, zc_W [] a1 E1 77)) rfl hN (atype := .int) (hts (.arrayClass .int) (by decide +kernel)) rfl hK.1 0 rfl (N := 4) (x := .inl (fun _ => Int32.ofInt 0)) (fun _ => rfl) rfl (Nat.le_of_ble_eq_true rfl) (Nat.le_of_ble_eq_true rfl) (Nat.le_of_ble_eq_true rfl) (Nat.le_of_ble_eq_true rfl) dL_law_17 (fun ad => ?_)
    refine cd_num (k' := 155) (ms' := 7468) (n' := 78) rfl rfl rfl ?_
    refine cd_astore_n hC dL_law_19 rfl (by decide) (lv' := [(3, .ref ad), (2, .ref q1), (1, .ref q0), (0, .ref b)]) rfl ?_
    intro H locs ls hP hD hS hl
    obtain ⟨hP2, hD2⟩ := zs_world h13 h23 hP hD
    have b0 : zs_b a1 a2 0 = q0 := h10.trans (va_up_self _ _ _)
    have b77 : zs_b a1 a2 77 = q1 := h20.trans (va_up_self _ _ _)
    have hl2 := lv_sub (l' := [(0, .ref b), (1, .ref q0), (2, .ref q1), (3, .ref ad)]) hl [3, 2, 1, 0] rfl
    refine W.widen (k := 1300) (n := 6 * 1300) (Nat.le_of_ble_eq_true rfl) (Nat.le_of_ble_eq_true rfl) ?_
    exact zs_pre (a := zs_b a1 a2) (ad := ad) l hl9 Hq ⟨zs0_rg, zs0_rg, zs_v_rg⟩ H locs ls hP2 hD2 hS (by rw [b0, b77]; exact hl2)
  exact K0 s.heap [] ls (fun k q h => by simp [zc_W] at h) ⟨fun i j p q h => by simp [zc_W] at h, fun k q h => by simp [zc_W] at h⟩ va_S.rf hl
