set_option maxHeartbeats 4000000 in
set_option maxRecDepth 100000 in
/-- the law, from its entry -/
theorem whole_start {p : Program} {e : Env} {s : State} {m : MethodId} {below : List Frame} {meth : Method} {c : Code} (l : Launch) (hflags : l.flags = flags0) {b L : Nat} {xs : Nat → Int32} (hL : L ≤ 2048) (C0 : lw_At p s m meth c b L xs) : W p l e room_1 s m #[Value.ref b] below meth c s.heap [] 0 0 (lw_Z below #[Value.ref b] s) (entryFrame m ([Value.ref b] : List Value).toArray 7) := by
  obtain ⟨hx, hb, hr, hml, hown, hts, hX, hbl, hlocks, hgv⟩ := C0
  have hl9 : l.stackTraces = false := by
    unfold Launch.stackTraces
    rw [hflags]
    decide +kernel
  obtain ⟨Y, hE⟩ := zs_env hts hgv
  obtain ⟨G, hK⟩ := zs_know hts
  have hC : zz_C p c code 7 s m RL := ⟨hx, hb, hml, hown⟩
  have hts2 : ∀ w ∈ wsL_law, w.before #[Value.ref b] s = true := fun w h => hts w (wsL_law_in w h)
  have hF : zz_F s s.heap.size G Y := ⟨Nat.le_refl _, hK.1, hE⟩
  have Hq : zq_ p s m meth c b L xs G Y := ⟨hC, hts2, hX, hbl, hL, hF, hr, hlocks⟩
  have hN : s.heap.size ≤ s.heap.size := Nat.le_refl _
  have w3 : ∀ w ∈ u_ws RX3 TX3 11, w.before #[Value.ref b] s = true := fun w h => hts w (inX3 w h)
  have w4 : ∀ w ∈ u_ws RX4 TX4 27, w.before #[Value.ref b] s = true := fun w h => hts w (inX4 w h)
  have hl := lv_entry ([.ref b]) (n := 7) (Nat.le_of_ble_eq_true rfl)
  rw [lg_entry_eq]
  generalize (lg_sl ([.ref b]) ++ List.replicate (7 - (lg_sl ([.ref b])).length) Slot.unset).toArray = ls at hl ⊢
  have hl : lv_has ls 7 [(0, .ref b)] := hl
  have K0 : Cd_ p l e room_1 s m #[Value.ref b] below meth c (lw_Z below #[Value.ref b] s) s.heap.size G.1 7 0 0 0 (fun _ => 0) (fun _ => .inr (0, [])) 0 [(0, .ref b)] [] := by
    refine cd_new hC (C := RX3) (T := TX3) (N := 11) (ci := 3) (fs := [.null, zz_v 0, .null, zz_v 0, .null, .null, .null, zz_v 0, .null, zz_v 0, zz_v 0]) hN w3 tyX3 tyX3_ok (hts (.classLink RL 8 RX3) (by decide +kernel)) (hts (.instantiable RX3 11) (by decide +kernel)) (hts (.initialized RX3) (by decide +kernel)) hK.1 rfl (fun j hj => by rcases (show j = 0 ∨ j = 1 ∨ j = 2 ∨ j = 3 ∨ j = 4 ∨ j = 5 ∨ j = 6 ∨ j = 7 ∨ j = 8 ∨ j = 9 ∨ j = 10 by omega) with rfl | rfl | rfl | rfl | rfl | rfl | rfl | rfl | rfl | rfl | rfl <;> rfl) (Nat.le_of_ble_eq_true rfl) (Nat.le_of_ble_eq_true rfl) dL_law_0 (fun q0 => ?_)
    refine cd_num (k' := 1) (ms' := 11) (n' := 1) rfl rfl rfl ?_
    refine cd_dup hC dL_law_3 rfl ?_
    refine cd_callI (G := G) (As := []) (rest := [.ref q0]) rfl hC hN hK (Kt_.av (va_up_self _ _ _) (c_X3_init l _ G _ _ (va_up_self _ _ _))) (cwI 0 hts2 gL_law_X3_init rfl rfl rfl (hts (.initialized RX3) (by decide +kernel)) (hts (.methodLink RL 91 yX3_init) (by decide +kernel)) (hts (.instanceMethod yX3_init) (by decide +kernel)) rfl (by decide +kernel) ⟨Nat.le_of_ble_eq_true rfl, Nat.le_of_ble_eq_true rfl⟩) rfl rfl (Nat.le_of_ble_eq_true rfl) dL_law_4 ⟨Nat.le_of_ble_eq_true rfl, Nat.le_of_ble_eq_true rfl⟩ (fun a1 E1 h1 => ?_)
    refine cd_num (k' := 77) (ms' := 3732) (n' := 77) rfl rfl rfl ?_
    obtain ⟨h10, h13⟩ := h1
    have h13 : zs_3 G a1 E1 := h13
    refine cd_astore_n hC dL_law_7 rfl (by decide) (lv' := [(1, .ref q0), (0, .ref b)]) rfl ?_
    refine cd_new hC (C := RX4) (T := TX4) (N := 27) (ci := 4) (fs := [zz_v 0, .null, zz_v 0, zz_v 0, .null, .null, .null, zz_v 0, .null, .null, .null, .null, .null, .null, .null, .null, .null, zz_v 0, .null, .null, .null, .null, .null, .null, .null, .null, zz_v 0]) hN w4 tyX4 tyX4_ok (hts (.classLink RL 92 RX4) (by decide +kernel)) (hts (.instantiable RX4 27) (by decide +kernel)) (hts (.initialized RX4) (by decide +kernel)) hK.1 rfl (fun j hj => by rcases (show j = 0 ∨ j = 1 ∨ j = 2 ∨ j = 3 ∨ j = 4 ∨ j = 5 ∨ j = 6 ∨ j = 7 ∨ j = 8 ∨ j = 9 ∨ j = 10 ∨ j = 11 ∨ j = 12 ∨ j = 13 ∨ j = 14 ∨ j = 15 ∨ j = 16 ∨ j = 17 ∨ j = 18 ∨ j = 19 ∨ j = 20 ∨ j = 21 ∨ j = 22 ∨ j = 23 ∨ j = 24 ∨ j = 25 ∨ j = 26 by omega) with rfl | rfl | rfl | rfl | rfl | rfl | rfl | rfl | rfl | rfl | rfl | rfl | rfl | rfl | rfl | rfl | rfl | rfl | rfl | rfl | rfl | rfl | rfl | rfl | rfl | rfl | rfl <;> rfl) (Nat.le_of_ble_eq_true rfl) (Nat.le_of_ble_eq_true rfl) dL_law_8 (fun q77 => ?_)
    refine cd_num (k' := 78) (ms' := 3759) (n' := 78) rfl rfl rfl ?_
    refine cd_dup hC dL_law_11 rfl ?_
    refine cd_callI (G := G) (As := []) (rest := [.ref q77]) rfl hC hN hK (Kt_.av (va_up_self _ _ _) (c_X4_init l _ G _ _ (va_up_self _ _ _))) (cwI 0 hts2 gL_law_X4_init rfl rfl rfl (hts (.initialized RX4) (by decide +kernel)) (hts (.methodLink RL 94 yX4_init) (by decide +kernel)) (hts (.instanceMethod yX4_init) (by decide +kernel)) rfl (by decide +kernel) ⟨Nat.le_of_ble_eq_true rfl, Nat.le_of_ble_eq_true rfl⟩) rfl rfl (Nat.le_of_ble_eq_true rfl) dL_law_12 ⟨Nat.le_of_ble_eq_true rfl, Nat.le_of_ble_eq_true rfl⟩ (fun a2 E2 h2 => ?_)
    refine cd_num (k' := 99) (ms' := 74350) (n' := 99) rfl rfl rfl ?_
    obtain ⟨h20, h21, h24⟩ := h2
    have h24 : zs_4 G a2 E2 := h24
    refine cd_astore_n hC dL_law_15 rfl (by decide) (lv' := [(2, .ref q77), (1, .ref q0), (0, .ref b)]) rfl ?_
    refine cd_iconst hC dL_law_16 ?_
    refine cd_newa hC (G := G) rfl hN (atype := .long) (hts (.arrayClass .long) (by decide +kernel)) rfl hK.1 5 rfl (N := 1) (x := .inr (.inl (fun _ => Int64.ofInt 0))) (fun _ => rfl) rfl (Nat.le_of_ble_eq_true rfl) (Nat.le_of_ble_eq_true rfl) (Nat.le_of_ble_eq_true rfl) (Nat.le_of_ble_eq_true rfl) dL_law_17 (fun q99 => ?_)
    refine cd_num (k' := 100) (ms' := 74351) (n' := 100) rfl rfl rfl ?_
    refine cd_astore_n hC dL_law_19 rfl (by decide) (lv' := [(3, .ref q99), (2, .ref q77), (1, .ref q0), (0, .ref b)]) rfl ?_
    refine cd_iconst hC dL_law_20 ?_
    refine cd_istore hC dL_law_21 (by decide) (lv' := [(4, zz_v 0), (3, .ref q99), (2, .ref q77), (1, .ref q0), (0, .ref b)]) rfl ?_
    intro H locs ls hP hD hS hl
    have z3 : zs_3 G (va_up a2 99 q99) (va_up E2 99 (.inl (G.2 5, 1, .inr (.inl (fun _ => Int64.ofInt 0))))) := zs_3t (a1 := a1) (E1 := E1) (fun j hj => by rw [va_up_ne _ _ (by omega), h20 j (by omega), va_up_ne _ _ (by omega)]) (fun j hj => by rw [va_up_ne _ _ (by omega), h21 j (by omega), va_up_ne _ _ (by omega)]) h13
    have z4 : zs_4 G (va_up a2 99 q99) (va_up E2 99 (.inl (G.2 5, 1, .inr (.inl (fun _ => Int64.ofInt 0))))) := zs_4t (a1 := a2) (E1 := E2) (fun j hj => va_up_ne _ _ (by omega)) (fun j hj => va_up_ne _ _ (by omega)) h24
    obtain ⟨hP2, hD2⟩ := zs_world z3 z4 (va_up_self _ _ _) hP hD
    have b0 : va_up a2 99 q99 (zs_g 0) = q0 := by
      show va_up a2 99 q99 0 = q0
      rw [va_up_ne _ _ (by omega), h20 0 (by omega), va_up_ne _ _ (by omega), h10, va_up_self]
    have b77 : va_up a2 99 q99 (zs_g 77) = q77 := by
      show va_up a2 99 q99 77 = q77
      rw [va_up_ne _ _ (by omega), h20 77 (by omega), va_up_self]
    have b99 : va_up a2 99 q99 (zs_g 99) = q99 := va_up_self _ _ _
    have hl2 := lv_sub (l' := [(0, .ref b), (1, .ref q0), (2, .ref q77), (3, .ref q99), (4, zz_v 0)]) hl [4, 3, 2, 1, 0] rfl
    have hl3 : lv_has ls 7 (zv_ b (fun k => va_up a2 99 q99 (zs_g k)) 0) := by
      show lv_has ls 7 [(0, .ref b), (1, .ref (va_up a2 99 q99 (zs_g 0))), (2, .ref (va_up a2 99 q99 (zs_g 77))), (3, .ref (va_up a2 99 q99 (zs_g 99))), (4, zz_v ((4 * 0 : Nat) : Int))]
      rw [b0, b77, b99]
      exact hl2
    refine W.widen (k := 20000 + 4 * 0) (n := 6 * (20000 + 4 * 0)) (Nat.le_of_ble_eq_true rfl) (Nat.le_of_ble_eq_true rfl) ?_
    exact lw_loop l hl9 Hq (L + 1) 0 zs0 (by omega) (by omega) zs0_r zs0_rg H locs ls hP2 hD2 hS hl3
  exact K0 s.heap [] ls (fun k q h => by simp [zc_W] at h) ⟨fun i j p q h => by simp [zc_W] at h, fun k q h => by simp [zc_W] at h⟩ va_S.rf hl
