abbrev rm_L_both : Room := { frames := 10, cells := 8, slots := 48, locals := 202 }
theorem zi_ba_rng (S : zz_S) (i p : Nat) (now : Int) : 0 ≤ zz_ba S i p now ∧ zz_ba S i p now ≤ 3 := by
  unfold zz_ba
  repeat' split
  all_goals omega
theorem zi_ab4 (T : zz_S) (c : Nat) : (T (61 + c) 4 = 1 ∧ zz_ab T c 4 = 1) ∨ (¬ T (61 + c) 4 = 1 ∧ zz_ab T c 4 = 0) := by
  by_cases q : T (61 + c) 4 = 1
  · refine Or.inl ⟨q, ?_⟩
    show (if T (61 + c) 4 = 1 then (1 : Int) else 0) = 1
    rw [if_pos q]
  · refine Or.inr ⟨q, ?_⟩
    show (if T (61 + c) 4 = 1 then (1 : Int) else 0) = 0
    rw [if_neg q]
/-! the law's calls over two halls -/
theorem zy_det {T S1 T1 T2 : zz_S} {e r r2 : Int} {F X1 X2 X3 : Prop} (hdet : (F → ¬ X1 ∧ ¬ X2 ∧ ¬ X3) ∧ (X1 → ¬ X2 ∧ ¬ X3) ∧ (X2 → ¬ X3)) (h1 : zy_wp T S1 e F X1 X2 X3 r T1) (h2 : zy_wp T S1 e F X1 X2 X3 r2 T2) : r2 = r ∧ T2 = T1 := by
  obtain ⟨d1, d2, d3⟩ := hdet
  rcases h1 with ⟨a1, a2, a3⟩ | ⟨a1, a2, a3⟩ | ⟨a1, a2, a3⟩ | ⟨a1, a2, a3⟩ <;> rcases h2 with ⟨b1, b2, b3⟩ | ⟨b1, b2, b3⟩ | ⟨b1, b2, b3⟩ | ⟨b1, b2, b3⟩
  · exact ⟨b1.trans a1.symm, b3.trans a3.symm⟩
  · exact absurd b2 (d1 a2).1
  · exact absurd b2 (d1 a2).2.1
  · exact absurd b2 (d1 a2).2.2
  · exact absurd a2 (d1 b2).1
  · exact ⟨b1.trans a1.symm, b3.trans a3.symm⟩
  · exact absurd b2 (d2 a2).1
  · exact absurd b2 (d2 a2).2
  · exact absurd a2 (d1 b2).2.1
  · exact absurd a2 (d2 b2).1
  · exact ⟨b1.trans a1.symm, b3.trans a3.symm⟩
  · exact absurd b2 (d3 a2)
  · exact absurd a2 (d1 b2).2.2
  · exact absurd a2 (d2 b2).2
  · exact absurd a2 (d3 b2)
  · exact ⟨b1.trans a1.symm, b3.trans a3.symm⟩
set_option maxHeartbeats 4000000 in
set_option maxRecDepth 100000 in
theorem c_L_both (l : Launch) (hl9 : l.stackTraces = false) (N0 : Nat) (G : zz_G) (Y : zz_Y) (a : Nat → Nat) (nA : List Nat) (T V : zz_S) {what x y w e1 : Int} {S1 : zz_S} {F X1 X2 X3 : Prop} (hD : ∀ (G' : zz_G) (a' : Nat → Nat), CtD l what x y w N0 G' Y a' T e1 S1 F X1 X2 X3) (hdet : (F → ¬ X1 ∧ ¬ X2 ∧ ¬ X3) ∧ (X1 → ¬ X2 ∧ ¬ X3) ∧ (X2 → ¬ X3)) : Cy_ l yL_both wsL_both rm_L_both 8 [.ref (a 0), .ref (a 77), zz_v what, zz_v x, zz_v y, zz_v w] N0 G Y a nA (T, T, V) (fun v U' => ∃ (r : Int) (T' : zz_S), zz_R r ∧ v = some (zz_v r) ∧ U' = (T', T', V) ∧ zy_wp T S1 e1 F X1 X2 X3 r T') := by
  refine Cy_.of (cc := cL_both) (maxL := 7) (ret := (some .int)) (by decide) rfl (Nat.le_of_ble_eq_true rfl) ?_
  intro p e s m args below meth c hC hts hr hlk hF
  refine ge_lveq (lv' := [(0, .ref (a 0)), (1, .ref (a 77)), (2, zz_v what), (3, zz_v x), (4, zz_v y), (5, zz_v w)]) rfl ?_
  refine ge_aload_n hC dL_both_0 rfl (j := 0) rfl ?_
  refine ge_iload_n hC dL_both_1 rfl (j := 2) rfl ?_
  refine ge_iload_n hC dL_both_2 rfl (j := 3) rfl ?_
  refine ge_iload hC dL_both_3 (j := 4) rfl ?_
  refine ge_iload hC dL_both_5 (j := 5) rfl ?_
  refine ge_callSX (K := 4) (As := [.ref (a 0), zz_v what, zz_v x, zz_v y, zz_v w]) (rest := []) hC hF (fun hR => Cy_.of1 hR (c_L_call l hl9 N0 _ Y a _ (hD _ _)) (fun _ _ h => h)) (vx_cwSW 5 hts gL_both_L_call rfl rfl rfl (by decide +kernel) ⟨by decide, by decide⟩) rfl rfl (Nat.le_of_ble_eq_true rfl) dL_both_7 ⟨by decide, by decide⟩ (fun v U' hv => ?_)
  obtain ⟨T1, hU1, r, hr1, hv1, hw1⟩ := hv
  rw [hU1, hv1]
  refine ge_istore hC dL_both_10 (z := r) (by decide) (lv' := [(6, zz_v r), (0, .ref (a 0)), (1, .ref (a 77)), (2, zz_v what), (3, zz_v x), (4, zz_v y), (5, zz_v w)]) rfl ?_
  refine ge_iload hC dL_both_12 (j := 0) rfl ?_
  refine ge_aload_n hC dL_both_14 rfl (j := 2) rfl ?_
  refine ge_iload_n hC dL_both_15 rfl (j := 3) rfl ?_
  refine ge_iload_n hC dL_both_16 rfl (j := 4) rfl ?_
  refine ge_iload hC dL_both_17 (j := 5) rfl ?_
  refine ge_iload hC dL_both_19 (j := 6) rfl ?_
  refine ge_callSX (K := 4) (As := [.ref (a 77), zz_v what, zz_v x, zz_v y, zz_v w]) (rest := [zz_v r]) hC hF (fun hR => Cy_.of2 hR (c_L_call l hl9 N0 _ Y (fun q => a (77 + q)) _ (hD _ _)) (fun _ _ h => h)) (vx_cwSW 5 hts gL_both_L_call rfl rfl rfl (by decide +kernel) ⟨by decide, by decide⟩) rfl rfl (Nat.le_of_ble_eq_true rfl) dL_both_21 ⟨by decide, by decide⟩ (fun v2 U2 hv2 => ?_)
  obtain ⟨T2, hU2, r2, hr2, hv3, hw2⟩ := hv2
  rw [hU2, hv3]
  obtain ⟨hrr, hTT⟩ := zy_det hdet hw1 hw2
  rw [hrr, hTT]
  refine ge_icmp_ne hC dL_both_24 (x := r) (y := r) (tgt := 32) (by decide) hr1 hr1 (fun c1 => absurd rfl c1) (fun c1 => ?_)
  refine ge_iload hC dL_both_27 (j := 0) rfl ?_
  refine ge_goto hC dL_both_29 (tgt := 34) (by decide) ?_
  exact ge_ireturn hC hr rfl hlk dL_both_34 (by decide) ⟨r, T1, hr1, rfl, rfl, hw1⟩
section ZLE
variable {p : Program} {l : Launch} {e : Env} {R : Room} {s : State} {m : MethodId} {args : Array Value} {below : List Frame} {meth : Method} {c : Code} {Q : State → Prop} {N0 : Nat} {G : zz_G} {a : Nat → Nat} {nL k : Nat} {nA : List Nat} {U : zy_U} {T V : zz_S} {Y : zz_Y} {pc : Nat} {lv : List (Nat × Value)} {st : List Value} {cc : ByteArray} {own : String}

theorem ge_some {index : Nat} {x n : Int} {rest : List Value} (hC : zz_C p c cc nL s m own) (hF : zz_F s N0 G Y) (hn : 0 < n ∧ n < 2147483648)
    (cw : CallB R s args own index yL_some cL_some 2 (some .int) wsL_some rm_L_some 0 0 2 ∧ (Cond.static yL_some).before args s = true) (hst : st = [zz_v n, zz_v x] ++ rest) (hW : (rest.map fun v => v.category).sum ≤ 8) (hdg : decode cc pc = .ok (.invokestatic index, 3)) (hf : k + 0 ≤ R.cells ∧ 6 * (k + 0) ≤ R.slots)
    (kk : ∀ r : Int, 0 ≤ r → r < n → Ge_ p l e R s m args below meth c Q N0 G a nA nL (k + 0) (U) (pc + 3) (lv) (zz_v r :: rest)) : Ge_ p l e R s m args below meth c Q N0 G a nA nL (k) (U) (pc) (lv) (st) :=
  ge_callS (K := 0) (As := [zz_v x, zz_v n]) hC hF (fun hR => Cy_.of1 hR (c_L_some l N0 _ Y a _ x n hn) (fun _ _ h => h)) cw rfl hst hW hdg hf (fun v U' hv => by
    obtain ⟨T', rfl, r, h1, rfl, rfl⟩ := hv
    exact kk r h1.1 h1.2)
theorem ge_both {index : Nat} {what x y w e1 : Int} {S1 : zz_S} {F X1 X2 X3 : Prop} {rest : List Value} (hl9 : l.stackTraces = false) (hC : zz_C p c cc nL s m own) (hF : zz_F s N0 G Y) (hD : ∀ (G' : zz_G) (a' : Nat → Nat), CtD l what x y w N0 G' Y a' T e1 S1 F X1 X2 X3) (hdet : (F → ¬ X1 ∧ ¬ X2 ∧ ¬ X3) ∧ (X1 → ¬ X2 ∧ ¬ X3) ∧ (X2 → ¬ X3))
    (cw : CallB R s args own index yL_both cL_both 7 (some .int) wsL_both rm_L_both 8 48 6 ∧ (Cond.static yL_both).before args s = true) (hst : st = [zz_v w, zz_v y, zz_v x, zz_v what, .ref (a 77), .ref (a 0)] ++ rest) (hW : (rest.map fun v => v.category).sum ≤ 8) (hdg : decode cc pc = .ok (.invokestatic index, 3)) (hf : k + 8 ≤ R.cells ∧ 6 * (k + 8) ≤ R.slots)
    (kk : ∀ (r : Int) (T' : zz_S), zz_R r → zy_wp T S1 e1 F X1 X2 X3 r T' → Ge_ p l e R s m args below meth c Q N0 G a nA nL (k + 8) (T', T', V) (pc + 3) (lv) (zz_v r :: rest)) : Ge_ p l e R s m args below meth c Q N0 G a nA nL (k) (T, T, V) (pc) (lv) (st) :=
  ge_callS (K := 8) (As := [.ref (a 0), .ref (a 77), zz_v what, zz_v x, zz_v y, zz_v w]) hC hF (fun _ => c_L_both l hl9 N0 G Y a nA T V hD hdet) cw rfl hst hW hdg hf (fun v U' hv => by
    obtain ⟨r, T', hr, rfl, rfl, hw⟩ := hv
    exact kk r T' hr hw)
theorem ge_callC {index : Nat} {what x y w e1 : Int} {S1 : zz_S} {F X1 X2 X3 : Prop} {rest : List Value} (hl9 : l.stackTraces = false) (hC : zz_C p c cc nL s m own) (hF : zz_F s N0 G Y) (hD : ∀ (G' : zz_G) (a' : Nat → Nat), CtD l what x y w N0 G' Y a' T e1 S1 F X1 X2 X3)
    (cw : vx_CSW R s args own index yL_call cL_call 6 (some .int) [(0, 9, 10, 15), (0, 9, 15, 18), (0, 9, 20, 21)] wsL_call rm_L_call 4 24 5) (hst : st = [zz_v w, zz_v y, zz_v x, zz_v what, .ref (a 0)] ++ rest) (hW : (rest.map fun v => v.category).sum ≤ 8) (hdg : decode cc pc = .ok (.invokestatic index, 3)) (hf : k + 4 ≤ R.cells ∧ 6 * (k + 4) ≤ R.slots)
    (kk : ∀ (r : Int) (T' : zz_S), zz_R r → zy_wp T S1 e1 F X1 X2 X3 r T' → Ge_ p l e R s m args below meth c Q N0 G a nA nL (k + 4) (T', T, V) (pc + 3) (lv) (zz_v r :: rest)) : Ge_ p l e R s m args below meth c Q N0 G a nA nL (k) (T, T, V) (pc) (lv) (st) :=
  ge_callSX (K := 4) (As := [.ref (a 0), zz_v what, zz_v x, zz_v y, zz_v w]) hC hF (fun hR => Cy_.of1 hR (c_L_call l hl9 N0 _ Y a _ (hD _ _)) (fun _ _ h => h)) cw rfl hst hW hdg hf (fun v U' hv => by
    obtain ⟨T', rfl, r, hr, rfl, hw⟩ := hv
    exact kk r T' hr hw)
/-- the word of a kind, typed at the one hall and at the other -/
theorem ge_kind1 {index : Nat} {x : Int} {rest : List Value} (hl9 : l.stackTraces = false) (hC : zz_C p c cc nL s m own) (hF : zz_F s N0 G Y) (hx : 0 ≤ x ∧ x < 4) (hI : zz_IC T) (h0 : T 0 1 = 0)
    (cw : CallB R s args own index yL_kind cL_kind 6 (some .boolean) wsL_kind rm_L_kind 28 168 2 ∧ (Cond.static yL_kind).before args s = true) (hst : st = [zz_v x, .ref (a 0)] ++ rest) (hW : (rest.map fun v => v.category).sum ≤ 8) (hdg : decode cc pc = .ok (.invokestatic index, 3)) (hf : k + 28 ≤ R.cells ∧ 6 * (k + 28) ≤ R.slots)
    (kk : Ge_ p l e R s m args below meth c Q N0 G a nA nL (k + 28) (zk_kS T x, T, V) (pc + 3) (lv) (zz_v 1 :: rest)) : Ge_ p l e R s m args below meth c Q N0 G a nA nL (k) (T, T, V) (pc) (lv) (st) :=
  ge_callS (K := 28) (As := [.ref (a 0), zz_v x]) hC hF (fun hR => Cy_.of1 hR (c_L_kind l hl9 N0 _ Y a _ x hx hI h0) (fun _ _ h => zz_xn h.2)) cw rfl hst hW hdg hf (fun v U' hv => by
    obtain ⟨T', rfl, r, hr, rfl, rfl, rfl, -⟩ := hv
    exact kk)
theorem ge_kind2 {index : Nat} {x : Int} {T1 : zz_S} {rest : List Value} (hl9 : l.stackTraces = false) (hC : zz_C p c cc nL s m own) (hF : zz_F s N0 G Y) (hx : 0 ≤ x ∧ x < 4) (hI : zz_IC T) (h0 : T 0 1 = 0)
    (cw : CallB R s args own index yL_kind cL_kind 6 (some .boolean) wsL_kind rm_L_kind 28 168 2 ∧ (Cond.static yL_kind).before args s = true) (hst : st = [zz_v x, .ref (a 77)] ++ rest) (hW : (rest.map fun v => v.category).sum ≤ 8) (hdg : decode cc pc = .ok (.invokestatic index, 3)) (hf : k + 28 ≤ R.cells ∧ 6 * (k + 28) ≤ R.slots)
    (kk : Ge_ p l e R s m args below meth c Q N0 G a nA nL (k + 28) (T1, zk_kS T x, V) (pc + 3) (lv) (zz_v 1 :: rest)) : Ge_ p l e R s m args below meth c Q N0 G a nA nL (k) (T1, T, V) (pc) (lv) (st) :=
  ge_callS (K := 28) (As := [.ref (a 77), zz_v x]) hC hF (fun hR => Cy_.of2 hR (c_L_kind l hl9 N0 _ Y (fun q => a (77 + q)) _ x hx hI h0) (fun _ _ h => zz_xn h.2)) cw rfl hst hW hdg hf (fun v U' hv => by
    obtain ⟨T', rfl, r, hr, rfl, rfl, rfl, -⟩ := hv
    exact kk)
end ZLE
/-- the law's numbers d tell of the hall -/
def zi_V (T V : zz_S) : Prop := V 0 0 = T 0 3 ∧ V 0 1 = T 0 7 ∧ V 0 2 = T 0 9 ∧ V 0 3 = T 0 10
/-- behind a step of the law: it went well, and both halls are as one -/
def zl_post (n : Nat) (v : Option Value) (U' : zy_U) : Prop := v = some (zz_v 1) ∧ ∃ T' V' : zz_S, U' = (T', T', V') ∧ zi_ T' n ∧ zi_V T' V'
