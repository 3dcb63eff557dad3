section ZLP
variable {p : Program} {l : Launch} {e : Env} {R : Room} {s : State} {m : MethodId} {args : Array Value} {below : List Frame} {meth : Method} {c : Code} {Q : State → Prop} {N0 : Nat} {G : zz_G} {a : Nat → Nat} {nL k : Nat} {S : zz_S} {pc : Nat} {lv : List (Nat × Value)} {st : List Value} {cc : ByteArray} {own : String}

/-- a loop whose rounds take room and alter the hall -/
theorem gd_loopA {σ : Type} (μ : σ → Nat) (I : σ → Prop) (kf : σ → Nat) (Sf : σ → zz_S) (lf : σ → List (Nat × Value)) (x0 : σ) (h0 : I x0) (hk : k = kf x0) (hS : S = Sf x0) (hl : lv = lf x0) (step : ∀ x : σ, I x → (∀ y : σ, I y → μ y < μ x → Gd_ p l e R s m args below meth c Q N0 G a nL (kf y) (Sf y) (pc) (lf y) (st)) → Gd_ p l e R s m args below meth c Q N0 G a nL (kf x) (Sf x) (pc) (lf x) (st)) : Gd_ p l e R s m args below meth c Q N0 G a nL (k) (S) (pc) (lv) (st) := by
  subst hk; subst hS; subst hl
  have key : ∀ (n : Nat) (x : σ), μ x < n → I x → Gd_ p l e R s m args below meth c Q N0 G a nL (kf x) (Sf x) (pc) (lf x) (st) := by
    intro n
    induction n with
    | zero => intro x h; omega
    | succ n ih => intro x h hI; exact step x hI (fun y hy hm => ih y (by omega) hy)
  exact key (μ x0 + 1) x0 (by omega) h0
/-- the law's call -/
theorem gd_callC {Y : zz_Y} {index : Nat} {what x y w e1 : Int} {S1 : zz_S} {F X1 X2 X3 : Prop} {rest : List Value} (hl9 : l.stackTraces = false) (hC : zz_C p c cc nL s m own) (hF : zz_F s N0 G Y) (hD : CtD l what x y w N0 G Y a S e1 S1 F X1 X2 X3)
    (cw : vx_CSW R s args own index yL_call cL_call 6 (some .int) [(0, 9, 10, 15), (0, 9, 15, 18), (0, 9, 20, 21)] wsL_call rm_L_call 4 24 5) (hst : st = [zz_v w, zz_v y, zz_v x, zz_v what, .ref (a 0)] ++ rest) (hW : (rest.map fun v => v.category).sum ≤ 8) (hdg : decode cc pc = .ok (.invokestatic index, 3)) (hf : k + 4 ≤ R.cells ∧ 6 * (k + 4) ≤ R.slots)
    (kk : ∀ (r : Int) (S' : zz_S), zz_R r → zy_wp S S1 e1 F X1 X2 X3 r S' → Gd_ p l e R s m args below meth c Q N0 G a nL (k + 4) (S') (pc + 3) (lv) (zz_v r :: rest)) : Gd_ p l e R s m args below meth c Q N0 G a nL (k) (S) (pc) (lv) (st) :=
  gd_callSX (K := 4) (As := [.ref (a 0), zz_v what, zz_v x, zz_v y, zz_v w]) hC hF (fun _ => c_L_call l hl9 N0 G Y a S hD) cw rfl hst hW hdg hf (fun _ _ h => h.elim) (fun v S' h => by
    obtain ⟨r, hr, rfl, hw⟩ := h
    exact kk r S' hr hw)
end ZLP
theorem zy_ty_IC {S : zz_S} (hI : zz_IC S) (h0 : S 0 1 = 0) (one two : Nat) {j : Nat} (hj : j ≤ 7) : zz_IC (zy_ty S one two j) := by
  obtain ⟨itc, ioc, iac, icc, itd, idc, ilc, iab, idv, iow, ikd, idy, ims, ihm, ict, iwv, irm, ipl, ian, ist, idl, ipe, ifi, ias, ihe, ifn, iod, ity⟩ := id hI
  exact zi_IC_K (k := zz_tk (zy_ty S one two j 1) (zy_ty S one two j 0 1)) hI ⟨rfl, by rw [zy_ty_n h0]; omega, zy_ty_rr ity one two j, fun i f q1 q2 => zy_ty_off S one two q1 q2 j⟩
abbrev rm_L_types : Room := { frames := 10, cells := 28, slots := 168, locals := 202 }
set_option maxHeartbeats 4000000 in
set_option maxRecDepth 100000 in
theorem c_L_types (l : Launch) (hl9 : l.stackTraces = false) (N0 : Nat) (G : zz_G) (Y : zz_Y) (a : Nat → Nat) (S : zz_S) (one two n : Nat) (h1 : one < 2147483648) (h2 : two < 2147483648) (hn : n ≤ 7) (hI : zz_IC S) (h0 : S 0 1 = 0) : CtR l yL_types wsL_types rm_L_types 28 [.ref (a 0), zz_v (one : Int), zz_v (two : Int), zz_v (n : Int)] N0 G Y a S 1 (zy_ty S one two n) True False False False := by
  refine Ct_.of (cc := cL_types) (maxL := 7) (ret := (some .boolean)) (by decide) rfl (Nat.le_of_ble_eq_true rfl) ?_
  intro p e s m args below meth c hC hts hr hlk hex hF
  have hK := hF.2.1
  refine gd_lveq (lv' := [(0, .ref (a 0)), (1, zz_v (one : Int)), (2, zz_v (two : Int)), (3, zz_v (n : Int))]) rfl ?_
  refine gd_iconst hC dL_types_0 ?_
  refine gd_istore hC dL_types_1 (by decide) (lv' := [(4, zz_v 1), (0, .ref (a 0)), (1, zz_v (one : Int)), (2, zz_v (two : Int)), (3, zz_v (n : Int))]) rfl ?_
  refine gd_iconst hC dL_types_3 ?_
  refine gd_istore hC dL_types_4 (by decide) (lv' := [(5, zz_v 0), (4, zz_v 1), (0, .ref (a 0)), (1, zz_v (one : Int)), (2, zz_v (two : Int)), (3, zz_v (n : Int))]) rfl ?_
  refine gd_sub [2, 3, 4, 5, 1, 0] (lv' := [(0, .ref (a 0)), (1, zz_v (one : Int)), (2, zz_v (two : Int)), (3, zz_v (n : Int)), (4, zz_v 1), (5, zz_v 0)]) rfl ?_
  refine gd_loopA (σ := Nat) (μ := fun vz => n - vz) (I := fun vz => (vz ≤ n)) (kf := fun vz => 4 * vz) (Sf := fun vz => zy_ty S one two vz) (lf := fun vz => [(0, .ref (a 0)), (1, zz_v (one : Int)), (2, zz_v (two : Int)), (3, zz_v (n : Int)), (4, zz_v 1), (5, zz_v (vz : Int))]) 0 (Nat.zero_le n) rfl rfl rfl (fun j hJ9 ih6 => ?_)
  have hI0 : j ≤ n := hJ9
  refine gd_lveq (lv' := [(0, .ref (a 0)), (1, zz_v (one : Int)), (2, zz_v (two : Int)), (3, zz_v (n : Int)), (4, zz_v 1), (5, zz_v (j : Int))]) rfl ?_
  refine gd_eq (S' := zy_ty S one two j) rfl ?_
  refine gd_sup (k' := 4 * j) rfl ?_
  have hnj := zy_ty_n h0 one two j
  have hIj : zz_IC (zy_ty S one two j) := zy_ty_IC hI h0 one two (by omega)
  have hlt := zy_lt_rng one two j
  have hlc : zy_lc one two j < 32 := Nat.mod_lt _ (by decide)
  refine gd_iload hC dL_types_6 (j := 5) rfl ?_
  refine gd_iload_n hC dL_types_8 rfl (j := 3) rfl ?_
  refine gd_icmp_ge hC dL_types_9 (tgt := 92) (by decide) ⟨by omega, by omega⟩ ⟨by omega, by omega⟩ (fun c1 => ?_) (fun c1 => ?_)
  · skip
    refine gd_iload hC dL_types_92 (j := 4) rfl ?_
    exact gd_ireturn hC hr rfl hlk dL_types_94 (show _ ≤ 28 by omega) ⟨_, ⟨by decide, by decide⟩, rfl, by rw [show j = n by omega], rfl, trivial⟩
  · skip
    refine gd_iload hC dL_types_12 (j := 5) rfl ?_
    refine gd_iconst hC dL_types_14 ?_
    refine gd_icmp_ge hC dL_types_15 (tgt := 27) (by decide) ⟨by omega, by omega⟩ ⟨by decide, by decide⟩ (fun c2 => ?_) (fun c2 => ?_)
    · skip
      refine gd_iload_n hC dL_types_27 rfl (j := 2) rfl ?_
      refine gd_iconst hC dL_types_28 ?_
      refine gd_iload hC dL_types_29 (j := 5) rfl ?_
      refine gd_iconst hC dL_types_31 ?_
      refine gd_isub hC dL_types_32 ?_
      refine gd_imul hC dL_types_33 ?_
      refine gd_ishr hC ⟨by omega, by omega⟩ ⟨by omega, by omega⟩ dL_types_34 ?_
      refine gd_top (y := ((two / 2 ^ (5 * (j - 4)) : Nat) : Int)) (by rw [Int.toNat_natCast, show (5 * ((j : Int) - 4) : Int).toNat = (5 * (j - 4)) by omega]) ?_
      refine gd_bipush hC dL_types_35 rfl ?_
      refine gd_iand31 hC dL_types_37 ?_
      refine gd_top (y := ((zy_lc one two j : Nat) : Int)) (by unfold zy_lc; first | (rw [if_pos (by omega)]; omega) | (rw [if_neg (by omega)]; omega)) ?_
      refine gd_istore hC dL_types_38 (by decide) (lv' := [(6, zz_v ((zy_lc one two j : Nat) : Int)), (0, .ref (a 0)), (1, zz_v (one : Int)), (2, zz_v (two : Int)), (3, zz_v (n : Int)), (4, zz_v 1), (5, zz_v (j : Int))]) rfl ?_
      refine gd_iload hC dL_types_40 (j := 5) rfl ?_
      refine gd_if_eq hC dL_types_42 (tgt := 83) (by decide) ⟨by decide, by decide⟩ (fun c3 => (by omega)) (fun c3 => ?_)
      refine gd_aload_n hC dL_types_45 rfl (j := 1) rfl ?_
      refine gd_iconst hC dL_types_46 ?_
      refine gd_bipush hC dL_types_47 rfl ?_
      refine gd_iload hC dL_types_49 (j := 0) rfl ?_
      refine gd_bipush hC dL_types_51 rfl ?_
      refine gd_icmp_le hC dL_types_53 (tgt := 64) (by decide) ⟨by omega, by omega⟩ ⟨by decide, by decide⟩ (fun c4 => ?_) (fun c4 => ?_)
      · skip
        refine gd_iload hC dL_types_64 (j := 0) rfl ?_
        refine gd_iadd hC dL_types_66 ?_
        refine gd_top (y := ((zy_lt one two j : Nat) : Int)) (by unfold zy_lt; first | (rw [if_pos (by omega)]; omega) | (rw [if_neg (by omega)]; omega)) ?_
        refine gd_iconst hC dL_types_67 ?_
        refine gd_iconst hC dL_types_68 ?_
        refine gd_callC (what := 0) (x := ((zy_lt one two j : Nat) : Int)) (y := 0) (w := 0) (rest := []) hl9 hC hF (c_L_does_letter l hl9 N0 G Y a _ 0 0 ((zy_lt one two j : Nat) : Int) ⟨by omega, by omega⟩ hIj) (vx_cwSW 5 hts gL_types_L_call rfl rfl rfl (by decide +kernel) ⟨by decide, by decide⟩) rfl (Nat.le_of_ble_eq_true rfl) dL_types_69 ⟨show _ ≤ 28 by omega, show _ ≤ 168 by omega⟩ (fun r S' hr1 hw => ?_)
        rcases hw with ⟨hre, hwF, rfl⟩ | ⟨hre, hwX, -⟩ | ⟨hre, hwX, -⟩ | ⟨hre, hwX, -⟩
        rotate_left
        · exfalso; first | omega | exact hwX
        · exfalso; first | omega | exact hwX
        · exfalso; first | omega | exact hwX
        rw [hnj] at hre hwF ⊢
        refine gd_top (y := ((j + 1 : Nat) : Int)) (by rw [hre]; omega) ?_
        refine gd_iload hC dL_types_72 (j := 6) rfl ?_
        refine gd_iconst hC dL_types_74 ?_
        refine gd_iadd hC dL_types_75 ?_
        refine gd_icmp_ne hC dL_types_76 (tgt := 83) (by decide) ⟨by omega, by omega⟩ ⟨by omega, by omega⟩ (fun c5 => (by omega)) (fun c5 => ?_)
        refine gd_iconst hC dL_types_79 ?_
        refine gd_goto hC dL_types_80 (tgt := 84) (by decide) ?_
        refine gd_istore hC dL_types_84 (by decide) (lv' := [(4, zz_v 1), (6, zz_v ((zy_lc one two j : Nat) : Int)), (0, .ref (a 0)), (1, zz_v (one : Int)), (2, zz_v (two : Int)), (3, zz_v (n : Int)), (5, zz_v (j : Int))]) rfl ?_
        refine gd_iinc hC dL_types_86 (j := 6) rfl (y := ((j + 1 : Nat) : Int)) (by omega) (by decide) (lv' := [(5, zz_v ((j + 1 : Nat) : Int)), (4, zz_v 1), (6, zz_v ((zy_lc one two j : Nat) : Int)), (0, .ref (a 0)), (1, zz_v (one : Int)), (2, zz_v (two : Int)), (3, zz_v (n : Int))]) rfl ?_
        refine gd_goto hC dL_types_89 (tgt := 6) (by decide) ?_
        refine gd_sub [3, 4, 5, 6, 1, 0] (lv' := [(0, .ref (a 0)), (1, zz_v (one : Int)), (2, zz_v (two : Int)), (3, zz_v (n : Int)), (4, zz_v 1), (5, zz_v ((j + 1 : Nat) : Int))]) rfl ?_
        refine gd_lveq (lv' := [(0, .ref (a 0)), (1, zz_v (one : Int)), (2, zz_v (two : Int)), (3, zz_v (n : Int)), (4, zz_v 1), (5, zz_v (((j + 1) : Nat) : Int))]) rfl ?_
        refine gd_eq (S' := zy_ty S one two (j + 1)) (by rw [zy_ty, Int.toNat_natCast]) ?_
        refine gd_sup (k' := 4 * (j + 1)) (by omega) ?_
        exact ih6 (j + 1) (by omega) (show n - (j + 1) < n - j by omega)
      · skip
        refine gd_iload hC dL_types_56 (j := 0) rfl ?_
        refine gd_bipush hC dL_types_58 rfl ?_
        refine gd_isub hC dL_types_60 ?_
        refine gd_goto hC dL_types_61 (tgt := 66) (by decide) ?_
        refine gd_iadd hC dL_types_66 ?_
        refine gd_top (y := ((zy_lt one two j : Nat) : Int)) (by unfold zy_lt; first | (rw [if_pos (by omega)]; omega) | (rw [if_neg (by omega)]; omega)) ?_
        refine gd_iconst hC dL_types_67 ?_
        refine gd_iconst hC dL_types_68 ?_
        refine gd_callC (what := 0) (x := ((zy_lt one two j : Nat) : Int)) (y := 0) (w := 0) (rest := []) hl9 hC hF (c_L_does_letter l hl9 N0 G Y a _ 0 0 ((zy_lt one two j : Nat) : Int) ⟨by omega, by omega⟩ hIj) (vx_cwSW 5 hts gL_types_L_call rfl rfl rfl (by decide +kernel) ⟨by decide, by decide⟩) rfl (Nat.le_of_ble_eq_true rfl) dL_types_69 ⟨show _ ≤ 28 by omega, show _ ≤ 168 by omega⟩ (fun r S' hr1 hw => ?_)
        rcases hw with ⟨hre, hwF, rfl⟩ | ⟨hre, hwX, -⟩ | ⟨hre, hwX, -⟩ | ⟨hre, hwX, -⟩
        rotate_left
        · exfalso; first | omega | exact hwX
        · exfalso; first | omega | exact hwX
        · exfalso; first | omega | exact hwX
        rw [hnj] at hre hwF ⊢
        refine gd_top (y := ((j + 1 : Nat) : Int)) (by rw [hre]; omega) ?_
        refine gd_iload hC dL_types_72 (j := 6) rfl ?_
        refine gd_iconst hC dL_types_74 ?_
        refine gd_iadd hC dL_types_75 ?_
        refine gd_icmp_ne hC dL_types_76 (tgt := 83) (by decide) ⟨by omega, by omega⟩ ⟨by omega, by omega⟩ (fun c6 => (by omega)) (fun c6 => ?_)
        refine gd_iconst hC dL_types_79 ?_
        refine gd_goto hC dL_types_80 (tgt := 84) (by decide) ?_
        refine gd_istore hC dL_types_84 (by decide) (lv' := [(4, zz_v 1), (6, zz_v ((zy_lc one two j : Nat) : Int)), (0, .ref (a 0)), (1, zz_v (one : Int)), (2, zz_v (two : Int)), (3, zz_v (n : Int)), (5, zz_v (j : Int))]) rfl ?_
        refine gd_iinc hC dL_types_86 (j := 6) rfl (y := ((j + 1 : Nat) : Int)) (by omega) (by decide) (lv' := [(5, zz_v ((j + 1 : Nat) : Int)), (4, zz_v 1), (6, zz_v ((zy_lc one two j : Nat) : Int)), (0, .ref (a 0)), (1, zz_v (one : Int)), (2, zz_v (two : Int)), (3, zz_v (n : Int))]) rfl ?_
        refine gd_goto hC dL_types_89 (tgt := 6) (by decide) ?_
        refine gd_sub [3, 4, 5, 6, 1, 0] (lv' := [(0, .ref (a 0)), (1, zz_v (one : Int)), (2, zz_v (two : Int)), (3, zz_v (n : Int)), (4, zz_v 1), (5, zz_v ((j + 1 : Nat) : Int))]) rfl ?_
        refine gd_lveq (lv' := [(0, .ref (a 0)), (1, zz_v (one : Int)), (2, zz_v (two : Int)), (3, zz_v (n : Int)), (4, zz_v 1), (5, zz_v (((j + 1) : Nat) : Int))]) rfl ?_
        refine gd_eq (S' := zy_ty S one two (j + 1)) (by rw [zy_ty, Int.toNat_natCast]) ?_
        refine gd_sup (k' := 4 * (j + 1)) (by omega) ?_
        exact ih6 (j + 1) (by omega) (show n - (j + 1) < n - j by omega)
    · skip
      refine gd_iload_n hC dL_types_18 rfl (j := 1) rfl ?_
      refine gd_iconst hC dL_types_19 ?_
      refine gd_iload hC dL_types_20 (j := 5) rfl ?_
      refine gd_imul hC dL_types_22 ?_
      refine gd_ishr hC ⟨by omega, by omega⟩ ⟨by omega, by omega⟩ dL_types_23 ?_
      refine gd_top (y := ((one / 2 ^ (5 * j) : Nat) : Int)) (by rw [Int.toNat_natCast, show (5 * (j : Int) : Int).toNat = (5 * j) by omega]) ?_
      refine gd_goto hC dL_types_24 (tgt := 35) (by decide) ?_
      refine gd_bipush hC dL_types_35 rfl ?_
      refine gd_iand31 hC dL_types_37 ?_
      refine gd_top (y := ((zy_lc one two j : Nat) : Int)) (by unfold zy_lc; first | (rw [if_pos (by omega)]; omega) | (rw [if_neg (by omega)]; omega)) ?_
      refine gd_istore hC dL_types_38 (by decide) (lv' := [(6, zz_v ((zy_lc one two j : Nat) : Int)), (0, .ref (a 0)), (1, zz_v (one : Int)), (2, zz_v (two : Int)), (3, zz_v (n : Int)), (4, zz_v 1), (5, zz_v (j : Int))]) rfl ?_
      refine gd_iload hC dL_types_40 (j := 5) rfl ?_
      refine gd_if_eq hC dL_types_42 (tgt := 83) (by decide) ⟨by decide, by decide⟩ (fun c7 => (by omega)) (fun c7 => ?_)
      refine gd_aload_n hC dL_types_45 rfl (j := 1) rfl ?_
      refine gd_iconst hC dL_types_46 ?_
      refine gd_bipush hC dL_types_47 rfl ?_
      refine gd_iload hC dL_types_49 (j := 0) rfl ?_
      refine gd_bipush hC dL_types_51 rfl ?_
      refine gd_icmp_le hC dL_types_53 (tgt := 64) (by decide) ⟨by omega, by omega⟩ ⟨by decide, by decide⟩ (fun c8 => ?_) (fun c8 => ?_)
      · skip
        refine gd_iload hC dL_types_64 (j := 0) rfl ?_
        refine gd_iadd hC dL_types_66 ?_
        refine gd_top (y := ((zy_lt one two j : Nat) : Int)) (by unfold zy_lt; first | (rw [if_pos (by omega)]; omega) | (rw [if_neg (by omega)]; omega)) ?_
        refine gd_iconst hC dL_types_67 ?_
        refine gd_iconst hC dL_types_68 ?_
        refine gd_callC (what := 0) (x := ((zy_lt one two j : Nat) : Int)) (y := 0) (w := 0) (rest := []) hl9 hC hF (c_L_does_letter l hl9 N0 G Y a _ 0 0 ((zy_lt one two j : Nat) : Int) ⟨by omega, by omega⟩ hIj) (vx_cwSW 5 hts gL_types_L_call rfl rfl rfl (by decide +kernel) ⟨by decide, by decide⟩) rfl (Nat.le_of_ble_eq_true rfl) dL_types_69 ⟨show _ ≤ 28 by omega, show _ ≤ 168 by omega⟩ (fun r S' hr1 hw => ?_)
        rcases hw with ⟨hre, hwF, rfl⟩ | ⟨hre, hwX, -⟩ | ⟨hre, hwX, -⟩ | ⟨hre, hwX, -⟩
        rotate_left
        · exfalso; first | omega | exact hwX
        · exfalso; first | omega | exact hwX
        · exfalso; first | omega | exact hwX
        rw [hnj] at hre hwF ⊢
        refine gd_top (y := ((j + 1 : Nat) : Int)) (by rw [hre]; omega) ?_
        refine gd_iload hC dL_types_72 (j := 6) rfl ?_
        refine gd_iconst hC dL_types_74 ?_
        refine gd_iadd hC dL_types_75 ?_
        refine gd_icmp_ne hC dL_types_76 (tgt := 83) (by decide) ⟨by omega, by omega⟩ ⟨by omega, by omega⟩ (fun c9 => (by omega)) (fun c9 => ?_)
        refine gd_iconst hC dL_types_79 ?_
        refine gd_goto hC dL_types_80 (tgt := 84) (by decide) ?_
        refine gd_istore hC dL_types_84 (by decide) (lv' := [(4, zz_v 1), (6, zz_v ((zy_lc one two j : Nat) : Int)), (0, .ref (a 0)), (1, zz_v (one : Int)), (2, zz_v (two : Int)), (3, zz_v (n : Int)), (5, zz_v (j : Int))]) rfl ?_
        refine gd_iinc hC dL_types_86 (j := 6) rfl (y := ((j + 1 : Nat) : Int)) (by omega) (by decide) (lv' := [(5, zz_v ((j + 1 : Nat) : Int)), (4, zz_v 1), (6, zz_v ((zy_lc one two j : Nat) : Int)), (0, .ref (a 0)), (1, zz_v (one : Int)), (2, zz_v (two : Int)), (3, zz_v (n : Int))]) rfl ?_
        refine gd_goto hC dL_types_89 (tgt := 6) (by decide) ?_
        refine gd_sub [3, 4, 5, 6, 1, 0] (lv' := [(0, .ref (a 0)), (1, zz_v (one : Int)), (2, zz_v (two : Int)), (3, zz_v (n : Int)), (4, zz_v 1), (5, zz_v ((j + 1 : Nat) : Int))]) rfl ?_
        refine gd_lveq (lv' := [(0, .ref (a 0)), (1, zz_v (one : Int)), (2, zz_v (two : Int)), (3, zz_v (n : Int)), (4, zz_v 1), (5, zz_v (((j + 1) : Nat) : Int))]) rfl ?_
        refine gd_eq (S' := zy_ty S one two (j + 1)) (by rw [zy_ty, Int.toNat_natCast]) ?_
        refine gd_sup (k' := 4 * (j + 1)) (by omega) ?_
        exact ih6 (j + 1) (by omega) (show n - (j + 1) < n - j by omega)
      · skip
        refine gd_iload hC dL_types_56 (j := 0) rfl ?_
        refine gd_bipush hC dL_types_58 rfl ?_
        refine gd_isub hC dL_types_60 ?_
        refine gd_goto hC dL_types_61 (tgt := 66) (by decide) ?_
        refine gd_iadd hC dL_types_66 ?_
        refine gd_top (y := ((zy_lt one two j : Nat) : Int)) (by unfold zy_lt; first | (rw [if_pos (by omega)]; omega) | (rw [if_neg (by omega)]; omega)) ?_
        refine gd_iconst hC dL_types_67 ?_
        refine gd_iconst hC dL_types_68 ?_
        refine gd_callC (what := 0) (x := ((zy_lt one two j : Nat) : Int)) (y := 0) (w := 0) (rest := []) hl9 hC hF (c_L_does_letter l hl9 N0 G Y a _ 0 0 ((zy_lt one two j : Nat) : Int) ⟨by omega, by omega⟩ hIj) (vx_cwSW 5 hts gL_types_L_call rfl rfl rfl (by decide +kernel) ⟨by decide, by decide⟩) rfl (Nat.le_of_ble_eq_true rfl) dL_types_69 ⟨show _ ≤ 28 by omega, show _ ≤ 168 by omega⟩ (fun r S' hr1 hw => ?_)
        rcases hw with ⟨hre, hwF, rfl⟩ | ⟨hre, hwX, -⟩ | ⟨hre, hwX, -⟩ | ⟨hre, hwX, -⟩
        rotate_left
        · exfalso; first | omega | exact hwX
        · exfalso; first | omega | exact hwX
        · exfalso; first | omega | exact hwX
        rw [hnj] at hre hwF ⊢
        refine gd_top (y := ((j + 1 : Nat) : Int)) (by rw [hre]; omega) ?_
        refine gd_iload hC dL_types_72 (j := 6) rfl ?_
        refine gd_iconst hC dL_types_74 ?_
        refine gd_iadd hC dL_types_75 ?_
        refine gd_icmp_ne hC dL_types_76 (tgt := 83) (by decide) ⟨by omega, by omega⟩ ⟨by omega, by omega⟩ (fun c10 => (by omega)) (fun c10 => ?_)
        refine gd_iconst hC dL_types_79 ?_
        refine gd_goto hC dL_types_80 (tgt := 84) (by decide) ?_
        refine gd_istore hC dL_types_84 (by decide) (lv' := [(4, zz_v 1), (6, zz_v ((zy_lc one two j : Nat) : Int)), (0, .ref (a 0)), (1, zz_v (one : Int)), (2, zz_v (two : Int)), (3, zz_v (n : Int)), (5, zz_v (j : Int))]) rfl ?_
        refine gd_iinc hC dL_types_86 (j := 6) rfl (y := ((j + 1 : Nat) : Int)) (by omega) (by decide) (lv' := [(5, zz_v ((j + 1 : Nat) : Int)), (4, zz_v 1), (6, zz_v ((zy_lc one two j : Nat) : Int)), (0, .ref (a 0)), (1, zz_v (one : Int)), (2, zz_v (two : Int)), (3, zz_v (n : Int))]) rfl ?_
        refine gd_goto hC dL_types_89 (tgt := 6) (by decide) ?_
        refine gd_sub [3, 4, 5, 6, 1, 0] (lv' := [(0, .ref (a 0)), (1, zz_v (one : Int)), (2, zz_v (two : Int)), (3, zz_v (n : Int)), (4, zz_v 1), (5, zz_v ((j + 1 : Nat) : Int))]) rfl ?_
        refine gd_lveq (lv' := [(0, .ref (a 0)), (1, zz_v (one : Int)), (2, zz_v (two : Int)), (3, zz_v (n : Int)), (4, zz_v 1), (5, zz_v (((j + 1) : Nat) : Int))]) rfl ?_
        refine gd_eq (S' := zy_ty S one two (j + 1)) (by rw [zy_ty, Int.toNat_natCast]) ?_
        refine gd_sup (k' := 4 * (j + 1)) (by omega) ?_
        exact ih6 (j + 1) (by omega) (show n - (j + 1) < n - j by omega)
abbrev rm_L_kind : Room := { frames := 11, cells := 28, slots := 168, locals := 228 }
set_option maxHeartbeats 4000000 in
set_option maxRecDepth 100000 in
theorem c_L_kind_0 (l : Launch) (hl9 : l.stackTraces = false) (N0 : Nat) (G : zz_G) (Y : zz_Y) (a : Nat → Nat) (S : zz_S) (hI : zz_IC S) (h0 : S 0 1 = 0) : CtR l yL_kind wsL_kind rm_L_kind 28 [.ref (a 0), zz_v 0] N0 G Y a S 1 (zk_kS S 0) True False False False := by
  refine Ct_.of (cc := cL_kind) (maxL := 6) (ret := (some .boolean)) (by decide) rfl (Nat.le_of_ble_eq_true rfl) ?_
  intro p e s m args below meth c hC hts hr hlk hex hF
  have hK := hF.2.1
  have k105 : (Cond.constant RL 105 (Int32.ofInt (408111))).before args s = true := hts _ (by decide +kernel)
  have k106 : (Cond.constant RL 106 (Int32.ofInt (142993))).before args s = true := hts _ (by decide +kernel)
  have k107 : (Cond.constant RL 107 (Int32.ofInt (739744))).before args s = true := hts _ (by decide +kernel)
  refine gd_lveq (lv' := [(0, .ref (a 0)), (1, zz_v 0)]) rfl ?_
  refine gd_sipush hC dL_kind_0 rfl ?_
  refine gd_istore_n hC dL_kind_3 rfl (by decide) (lv' := [(2, zz_v 11395), (0, .ref (a 0)), (1, zz_v 0)]) rfl ?_
  refine gd_ldc hC (n := 408111) k105 dL_kind_4 ?_
  refine gd_istore_n hC dL_kind_6 rfl (by decide) (lv' := [(3, zz_v 408111), (2, zz_v 11395), (0, .ref (a 0)), (1, zz_v 0)]) rfl ?_
  refine gd_ldc hC (n := 142993) k106 dL_kind_7 ?_
  refine gd_istore hC dL_kind_9 (by decide) (lv' := [(4, zz_v 142993), (3, zz_v 408111), (2, zz_v 11395), (0, .ref (a 0)), (1, zz_v 0)]) rfl ?_
  refine gd_ldc hC (n := 739744) k107 dL_kind_11 ?_
  refine gd_istore hC dL_kind_13 (by decide) (lv' := [(5, zz_v 739744), (4, zz_v 142993), (3, zz_v 408111), (2, zz_v 11395), (0, .ref (a 0)), (1, zz_v 0)]) rfl ?_
  refine gd_iload_n hC dL_kind_15 rfl (j := 5) rfl ?_
  refine gd_iconst hC dL_kind_16 ?_
  refine gd_icmp_ge hC dL_kind_17 (tgt := 46) (by decide) ⟨by decide, by decide⟩ ⟨by decide, by decide⟩ (fun c1 => (by omega)) (fun c1 => ?_)
  refine gd_iload_n hC dL_kind_20 rfl (j := 5) rfl ?_
  refine gd_if_ne hC dL_kind_21 (tgt := 35) (by decide) ⟨by decide, by decide⟩ (fun c2 => (by omega)) (fun c2 => ?_)
  refine gd_aload_n hC dL_kind_24 rfl (j := 4) rfl ?_
  refine gd_iload_n hC dL_kind_25 rfl (j := 3) rfl ?_
  refine gd_bipush hC dL_kind_26 rfl ?_
  refine gd_iconst hC dL_kind_28 ?_
  refine gd_callSR (As := [.ref (a 0), zz_v (11395 : Nat), zz_v (24 : Nat), zz_v (5 : Nat)]) (rest := []) hC hF (fun hR => c_L_types l hl9 N0 G Y a S 11395 24 5 (Nat.le_of_ble_eq_true rfl) (Nat.le_of_ble_eq_true rfl) (by decide) hI h0) (va_cwS 4 hts gL_kind_L_types rfl rfl rfl (by decide +kernel) ⟨by decide, by decide⟩) rfl rfl (Nat.le_of_ble_eq_true rfl) dL_kind_29 ⟨by decide, by decide⟩ (fun E hx => zz_xn hx) (fun q qr => ?_)
  refine gd_goto hC dL_kind_32 (tgt := 45) (by decide) ?_
  exact gd_ireturn hC hr rfl hlk dL_kind_45 (by decide) ⟨_, ⟨by decide, by decide⟩, rfl, rfl, rfl, trivial⟩
set_option maxHeartbeats 4000000 in
set_option maxRecDepth 100000 in
theorem c_L_kind_1 (l : Launch) (hl9 : l.stackTraces = false) (N0 : Nat) (G : zz_G) (Y : zz_Y) (a : Nat → Nat) (S : zz_S) (hI : zz_IC S) (h0 : S 0 1 = 0) : CtR l yL_kind wsL_kind rm_L_kind 28 [.ref (a 0), zz_v 1] N0 G Y a S 1 (zk_kS S 1) True False False False := by
  refine Ct_.of (cc := cL_kind) (maxL := 6) (ret := (some .boolean)) (by decide) rfl (Nat.le_of_ble_eq_true rfl) ?_
  intro p e s m args below meth c hC hts hr hlk hex hF
  have hK := hF.2.1
  have k105 : (Cond.constant RL 105 (Int32.ofInt (408111))).before args s = true := hts _ (by decide +kernel)
  have k106 : (Cond.constant RL 106 (Int32.ofInt (142993))).before args s = true := hts _ (by decide +kernel)
  have k107 : (Cond.constant RL 107 (Int32.ofInt (739744))).before args s = true := hts _ (by decide +kernel)
  refine gd_lveq (lv' := [(0, .ref (a 0)), (1, zz_v 1)]) rfl ?_
  refine gd_sipush hC dL_kind_0 rfl ?_
  refine gd_istore_n hC dL_kind_3 rfl (by decide) (lv' := [(2, zz_v 11395), (0, .ref (a 0)), (1, zz_v 1)]) rfl ?_
  refine gd_ldc hC (n := 408111) k105 dL_kind_4 ?_
  refine gd_istore_n hC dL_kind_6 rfl (by decide) (lv' := [(3, zz_v 408111), (2, zz_v 11395), (0, .ref (a 0)), (1, zz_v 1)]) rfl ?_
  refine gd_ldc hC (n := 142993) k106 dL_kind_7 ?_
  refine gd_istore hC dL_kind_9 (by decide) (lv' := [(4, zz_v 142993), (3, zz_v 408111), (2, zz_v 11395), (0, .ref (a 0)), (1, zz_v 1)]) rfl ?_
  refine gd_ldc hC (n := 739744) k107 dL_kind_11 ?_
  refine gd_istore hC dL_kind_13 (by decide) (lv' := [(5, zz_v 739744), (4, zz_v 142993), (3, zz_v 408111), (2, zz_v 11395), (0, .ref (a 0)), (1, zz_v 1)]) rfl ?_
  refine gd_iload_n hC dL_kind_15 rfl (j := 5) rfl ?_
  refine gd_iconst hC dL_kind_16 ?_
  refine gd_icmp_ge hC dL_kind_17 (tgt := 46) (by decide) ⟨by decide, by decide⟩ ⟨by decide, by decide⟩ (fun c1 => (by omega)) (fun c1 => ?_)
  refine gd_iload_n hC dL_kind_20 rfl (j := 5) rfl ?_
  refine gd_if_ne hC dL_kind_21 (tgt := 35) (by decide) ⟨by decide, by decide⟩ (fun c2 => ?_) (fun c2 => (by omega))
  refine gd_aload_n hC dL_kind_35 rfl (j := 4) rfl ?_
  refine gd_iload_n hC dL_kind_36 rfl (j := 2) rfl ?_
  refine gd_sipush hC dL_kind_37 rfl ?_
  refine gd_bipush hC dL_kind_40 rfl ?_
  refine gd_callSR (As := [.ref (a 0), zz_v (408111 : Nat), zz_v (4680 : Nat), zz_v (7 : Nat)]) (rest := []) hC hF (fun hR => c_L_types l hl9 N0 G Y a S 408111 4680 7 (Nat.le_of_ble_eq_true rfl) (Nat.le_of_ble_eq_true rfl) (by decide) hI h0) (va_cwS 4 hts gL_kind_L_types rfl rfl rfl (by decide +kernel) ⟨by decide, by decide⟩) rfl rfl (Nat.le_of_ble_eq_true rfl) dL_kind_42 ⟨by decide, by decide⟩ (fun E hx => zz_xn hx) (fun q qr => ?_)
  exact gd_ireturn hC hr rfl hlk dL_kind_45 (by decide) ⟨_, ⟨by decide, by decide⟩, rfl, rfl, rfl, trivial⟩
set_option maxHeartbeats 4000000 in
set_option maxRecDepth 100000 in
theorem c_L_kind_2 (l : Launch) (hl9 : l.stackTraces = false) (N0 : Nat) (G : zz_G) (Y : zz_Y) (a : Nat → Nat) (S : zz_S) (hI : zz_IC S) (h0 : S 0 1 = 0) : CtR l yL_kind wsL_kind rm_L_kind 28 [.ref (a 0), zz_v 2] N0 G Y a S 1 (zk_kS S 2) True False False False := by
  refine Ct_.of (cc := cL_kind) (maxL := 6) (ret := (some .boolean)) (by decide) rfl (Nat.le_of_ble_eq_true rfl) ?_
  intro p e s m args below meth c hC hts hr hlk hex hF
  have hK := hF.2.1
  have k105 : (Cond.constant RL 105 (Int32.ofInt (408111))).before args s = true := hts _ (by decide +kernel)
  have k106 : (Cond.constant RL 106 (Int32.ofInt (142993))).before args s = true := hts _ (by decide +kernel)
  have k107 : (Cond.constant RL 107 (Int32.ofInt (739744))).before args s = true := hts _ (by decide +kernel)
  refine gd_lveq (lv' := [(0, .ref (a 0)), (1, zz_v 2)]) rfl ?_
  refine gd_sipush hC dL_kind_0 rfl ?_
  refine gd_istore_n hC dL_kind_3 rfl (by decide) (lv' := [(2, zz_v 11395), (0, .ref (a 0)), (1, zz_v 2)]) rfl ?_
  refine gd_ldc hC (n := 408111) k105 dL_kind_4 ?_
  refine gd_istore_n hC dL_kind_6 rfl (by decide) (lv' := [(3, zz_v 408111), (2, zz_v 11395), (0, .ref (a 0)), (1, zz_v 2)]) rfl ?_
  refine gd_ldc hC (n := 142993) k106 dL_kind_7 ?_
  refine gd_istore hC dL_kind_9 (by decide) (lv' := [(4, zz_v 142993), (3, zz_v 408111), (2, zz_v 11395), (0, .ref (a 0)), (1, zz_v 2)]) rfl ?_
  refine gd_ldc hC (n := 739744) k107 dL_kind_11 ?_
  refine gd_istore hC dL_kind_13 (by decide) (lv' := [(5, zz_v 739744), (4, zz_v 142993), (3, zz_v 408111), (2, zz_v 11395), (0, .ref (a 0)), (1, zz_v 2)]) rfl ?_
  refine gd_iload_n hC dL_kind_15 rfl (j := 5) rfl ?_
  refine gd_iconst hC dL_kind_16 ?_
  refine gd_icmp_ge hC dL_kind_17 (tgt := 46) (by decide) ⟨by decide, by decide⟩ ⟨by decide, by decide⟩ (fun c1 => ?_) (fun c1 => (by omega))
  refine gd_iload_n hC dL_kind_46 rfl (j := 5) rfl ?_
  refine gd_iconst hC dL_kind_47 ?_
  refine gd_icmp_ne hC dL_kind_48 (tgt := 62) (by decide) ⟨by decide, by decide⟩ ⟨by decide, by decide⟩ (fun c2 => (by omega)) (fun c2 => ?_)
  refine gd_aload_n hC dL_kind_51 rfl (j := 4) rfl ?_
  refine gd_iload hC dL_kind_52 (j := 1) rfl ?_
  refine gd_iconst hC dL_kind_54 ?_
  refine gd_iconst hC dL_kind_55 ?_
  refine gd_callSR (As := [.ref (a 0), zz_v (142993 : Nat), zz_v (0 : Nat), zz_v (4 : Nat)]) (rest := []) hC hF (fun hR => c_L_types l hl9 N0 G Y a S 142993 0 4 (Nat.le_of_ble_eq_true rfl) (Nat.le_of_ble_eq_true rfl) (by decide) hI h0) (va_cwS 4 hts gL_kind_L_types rfl rfl rfl (by decide +kernel) ⟨by decide, by decide⟩) rfl rfl (Nat.le_of_ble_eq_true rfl) dL_kind_56 ⟨by decide, by decide⟩ (fun E hx => zz_xn hx) (fun q qr => ?_)
  refine gd_goto hC dL_kind_59 (tgt := 73) (by decide) ?_
  exact gd_ireturn hC hr rfl hlk dL_kind_73 (by decide) ⟨_, ⟨by decide, by decide⟩, rfl, rfl, rfl, trivial⟩
set_option maxHeartbeats 4000000 in
set_option maxRecDepth 100000 in
theorem c_L_kind_3 (l : Launch) (hl9 : l.stackTraces = false) (N0 : Nat) (G : zz_G) (Y : zz_Y) (a : Nat → Nat) (S : zz_S) (hI : zz_IC S) (h0 : S 0 1 = 0) : CtR l yL_kind wsL_kind rm_L_kind 28 [.ref (a 0), zz_v 3] N0 G Y a S 1 (zk_kS S 3) True False False False := by
  refine Ct_.of (cc := cL_kind) (maxL := 6) (ret := (some .boolean)) (by decide) rfl (Nat.le_of_ble_eq_true rfl) ?_
  intro p e s m args below meth c hC hts hr hlk hex hF
  have hK := hF.2.1
  have k105 : (Cond.constant RL 105 (Int32.ofInt (408111))).before args s = true := hts _ (by decide +kernel)
  have k106 : (Cond.constant RL 106 (Int32.ofInt (142993))).before args s = true := hts _ (by decide +kernel)
  have k107 : (Cond.constant RL 107 (Int32.ofInt (739744))).before args s = true := hts _ (by decide +kernel)
  refine gd_lveq (lv' := [(0, .ref (a 0)), (1, zz_v 3)]) rfl ?_
  refine gd_sipush hC dL_kind_0 rfl ?_
  refine gd_istore_n hC dL_kind_3 rfl (by decide) (lv' := [(2, zz_v 11395), (0, .ref (a 0)), (1, zz_v 3)]) rfl ?_
  refine gd_ldc hC (n := 408111) k105 dL_kind_4 ?_
  refine gd_istore_n hC dL_kind_6 rfl (by decide) (lv' := [(3, zz_v 408111), (2, zz_v 11395), (0, .ref (a 0)), (1, zz_v 3)]) rfl ?_
  refine gd_ldc hC (n := 142993) k106 dL_kind_7 ?_
  refine gd_istore hC dL_kind_9 (by decide) (lv' := [(4, zz_v 142993), (3, zz_v 408111), (2, zz_v 11395), (0, .ref (a 0)), (1, zz_v 3)]) rfl ?_
  refine gd_ldc hC (n := 739744) k107 dL_kind_11 ?_
  refine gd_istore hC dL_kind_13 (by decide) (lv' := [(5, zz_v 739744), (4, zz_v 142993), (3, zz_v 408111), (2, zz_v 11395), (0, .ref (a 0)), (1, zz_v 3)]) rfl ?_
  refine gd_iload_n hC dL_kind_15 rfl (j := 5) rfl ?_
  refine gd_iconst hC dL_kind_16 ?_
  refine gd_icmp_ge hC dL_kind_17 (tgt := 46) (by decide) ⟨by decide, by decide⟩ ⟨by decide, by decide⟩ (fun c1 => ?_) (fun c1 => (by omega))
  refine gd_iload_n hC dL_kind_46 rfl (j := 5) rfl ?_
  refine gd_iconst hC dL_kind_47 ?_
  refine gd_icmp_ne hC dL_kind_48 (tgt := 62) (by decide) ⟨by decide, by decide⟩ ⟨by decide, by decide⟩ (fun c2 => ?_) (fun c2 => (by omega))
  refine gd_aload_n hC dL_kind_62 rfl (j := 4) rfl ?_
  refine gd_iload hC dL_kind_63 (j := 0) rfl ?_
  refine gd_sipush hC dL_kind_65 rfl ?_
  refine gd_bipush hC dL_kind_68 rfl ?_
  refine gd_callSR (As := [.ref (a 0), zz_v (739744 : Nat), zz_v (548 : Nat), zz_v (6 : Nat)]) (rest := []) hC hF (fun hR => c_L_types l hl9 N0 G Y a S 739744 548 6 (Nat.le_of_ble_eq_true rfl) (Nat.le_of_ble_eq_true rfl) (by decide) hI h0) (va_cwS 4 hts gL_kind_L_types rfl rfl rfl (by decide +kernel) ⟨by decide, by decide⟩) rfl rfl (Nat.le_of_ble_eq_true rfl) dL_kind_70 ⟨by decide, by decide⟩ (fun E hx => zz_xn hx) (fun q qr => ?_)
  exact gd_ireturn hC hr rfl hlk dL_kind_73 (by decide) ⟨_, ⟨by decide, by decide⟩, rfl, rfl, rfl, trivial⟩
theorem c_L_kind (l : Launch) (hl9 : l.stackTraces = false) (N0 : Nat) (G : zz_G) (Y : zz_Y) (a : Nat → Nat) (S : zz_S) (k : Int) (hk : 0 ≤ k ∧ k < 4) (hI : zz_IC S) (h0 : S 0 1 = 0) : CtR l yL_kind wsL_kind rm_L_kind 28 [.ref (a 0), zz_v k] N0 G Y a S 1 (zk_kS S k) True False False False := by
  rcases (show k = 0 ∨ k = 1 ∨ k = 2 ∨ k = 3 by omega) with rfl | rfl | rfl | rfl
  · exact c_L_kind_0 l hl9 N0 G Y a S hI h0
  · exact c_L_kind_1 l hl9 N0 G Y a S hI h0
  · exact c_L_kind_2 l hl9 N0 G Y a S hI h0
  · exact c_L_kind_3 l hl9 N0 G Y a S hI h0
