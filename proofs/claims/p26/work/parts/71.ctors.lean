/-! what the constructors stand on: filling a row of numbers -/
theorem zc_f0 {v : Int} : (fun q : Nat => Int32.ofInt (if q < 0 then v else 0)) = fun _ => Int32.ofInt 0 := by
  funext q
  rw [if_neg (by omega)]
theorem zc_fs {v : Int} {i : Nat} : upd (fun q => Int32.ofInt (if q < i then v else 0)) i (Int32.ofInt v) = fun q => Int32.ofInt (if q < i + 1 then v else 0) := by
  funext q
  unfold upd
  by_cases h : q = i
  · rw [if_pos h, if_pos (by omega)]
  · rw [if_neg h]
    show Int32.ofInt (if q < i then v else 0) = _
    by_cases h2 : q < i
    · rw [if_pos h2, if_pos (by omega)]
    · rw [if_neg h2, if_neg (by omega)]
theorem va_up_up {α : Type} (f : Nat → α) (k : Nat) (v w : α) : va_up (va_up f k v) k w = va_up f k w := by
  funext j
  unfold va_up
  split <;> rfl
section ZO
variable {p : Program} {l : Launch} {e : Env} {R : Room} {s : State} {m : MethodId} {args : Array Value} {below : List Frame} {meth : Method} {c : Code} {Q : State → Prop} {N0 : Nat} {D : va_G × va_W} {nL k ms n : Nat} {a : Nat → Nat} {E : Nat → va_E} {pc : Nat} {lv : List (Nat × Value)} {st : List Value} {cc : ByteArray} {own : String}
theorem cd_put0 {b : Nat} {e9 : va_E} (h : E b = e9) (kk : Cd_ p l e R s m args below meth c Q N0 D nL k ms n a (va_up E b e9) pc lv st) : Cd_ p l e R s m args below meth c Q N0 D nL k ms n a E pc lv st := by
  refine cd_E (E' := va_up E b e9) (fun j hj => ?_) kk
  by_cases q : j = b
  · rw [q, va_up_self, h]
  · rw [va_up_ne _ _ q]
theorem cd_fill {G : zz_G} {ref C : String} {T : u_T} {N9 ci index k9 b x y N : Nat} {v : Int} {fs : List Value} {h pN p7 : Nat} {off o2 : Int} {tgt : Nat} (hC : zz_C p c cc 2 s m own) (hK : va_K D.1 vwCl (zz_T G) s)
    (d0 : decode cc h = .ok (.iload_n 1, 1)) (pushN : ∀ (E9 : Nat → va_E) (lv9 : List (Nat × Value)) (st9 : List Value), Cd_ p l e R s m args below meth c Q N0 D 2 k ms n a E9 pN lv9 (zz_v (N : Int) :: st9) → Cd_ p l e R s m args below meth c Q N0 D 2 k ms n a E9 (h + 1) lv9 st9)
    (d2 : decode cc pN = .ok (.if_icmp .ge off, 3)) (ht : (pN : Int) + off = (tgt : Int)) (d3 : decode cc (pN + 3) = .ok (.aload_n 0, 1))
    (hcw : ∀ w ∈ u_ws C T N9, w.before args s = true) (hb9 : k9 < n) (hx : a k9 = x) (hE : E k9 = .inr (ci, fs)) (hc : vwCl[ci]? = some (C, T, N9)) (f : Nat) (hf : f < N9) (hlink : (Cond.fieldLink own index ref (T f).2.1 (T f).2.2.1).before args s = true) (hsame : (T f).1 = ref) (hv : fs[f]? = some (.ref y))
    (hb : b < n) (hy : a b = y) (hne : k9 ≠ b) (d4 : decode cc (pN + 3 + 1) = .ok (.getfield index, 3)) (d5 : decode cc (pN + 3 + 1 + 3) = .ok (.iload_n 1, 1))
    (pushv : ∀ (E9 : Nat → va_E) (lv9 : List (Nat × Value)) (st9 : List Value), Cd_ p l e R s m args below meth c Q N0 D 2 k ms n a E9 p7 lv9 (zz_v v :: st9) → Cd_ p l e R s m args below meth c Q N0 D 2 k ms n a E9 (pN + 3 + 1 + 3 + 1) lv9 st9)
    (d7 : decode cc p7 = .ok (.iastore, 1)) (d8 : decode cc (p7 + 1) = .ok (.iinc 1 1, 3)) (d9 : decode cc (p7 + 1 + 3) = .ok (.goto o2, 3)) (ht2 : ((p7 + 1 + 3 : Nat) : Int) + o2 = (h : Int)) (hN9 : N < 1000000)
    (kk : Cd_ p l e R s m args below meth c Q N0 D 2 k ms n a (va_up E b (.inl (G.2.1 0, N, .inl (fun q => Int32.ofInt (if q < N then v else 0))))) tgt [(1, zz_v (N : Int)), (0, .ref x)] []) :
    Cd_ p l e R s m args below meth c Q N0 D 2 k ms n a (va_up E b (.inl (G.2.1 0, N, .inl (fun q => Int32.ofInt (if q < 0 then v else 0))))) h [(1, zz_v ((0 : Nat) : Int)), (0, .ref x)] [] := by
  have key : ∀ (f9 i : Nat), f9 + i = N → Cd_ p l e R s m args below meth c Q N0 D 2 k ms n a (va_up E b (.inl (G.2.1 0, N, .inl (fun q => Int32.ofInt (if q < i then v else 0))))) h [(1, zz_v (i : Int)), (0, .ref x)] [] := by
    intro f9
    induction f9 with
    | zero =>
      intro i hi
      have e9 : i = N := by omega
      subst e9
      refine cd_iload_n hC d0 rfl (j := 0) rfl ?_
      refine pushN _ _ _ ?_
      exact cd_icmp_ge hC d2 ht ⟨by omega, by omega⟩ ⟨by omega, by omega⟩ (fun _ => kk) (fun c1 => absurd (Int.le_refl _) c1)
    | succ f9 ih =>
      intro i hi
      refine cd_iload_n hC d0 rfl (j := 0) rfl ?_
      refine pushN _ _ _ ?_
      refine cd_icmp_ge hC d2 ht ⟨by omega, by omega⟩ ⟨by omega, by omega⟩ (fun c1 => absurd c1 (by omega)) (fun c1 => ?_)
      refine cd_aload_n hC d3 rfl (j := 1) rfl ?_
      refine cd_get hC hcw hK hb9 hx ((va_up_ne _ _ hne).trans hE) hc f hf hlink hsame hv d4 ?_
      refine cd_iload_n hC d5 rfl (j := 0) rfl ?_
      refine pushv _ _ _ ?_
      refine cd_iast hC (t := 0) (cA := G.2.1 0) hK rfl hb hy (va_up_self _ _ _) (j := i) rfl (by omega) hN9 d7 ?_
      refine cd_iinc hC d8 (j := 0) rfl (y := ((i + 1 : Nat) : Int)) (by omega) (by decide) (lv' := [(1, zz_v ((i + 1 : Nat) : Int)), (0, .ref x)]) rfl ?_
      refine cd_goto hC d9 ht2 ?_
      rw [va_up_up, zc_fs]
      exact ih (i + 1) (by omega)
  exact key N 0 (by omega)
end ZO

abbrev rm_X1_init : Room := { frames := 1, cells := 3, slots := 1536, locals := 12 }
set_option maxHeartbeats 4000000 in
set_option maxRecDepth 100000 in
theorem c_X1_init (l : Launch) (N0 : Nat) (G : zz_G) (a : Nat → Nat) (E : Nat → va_E) (n k : Nat) (hk : k < n) (hE : E k = .inr (1, [.null, .null, .null, zz_v 0])) : Kt_ l yX1_init wsX1_init rm_X1_init 3 1536 [.ref (a k)] N0 G a E (n) (n + 3) (fun a' E' => (∀ j : Nat, j < n → a' j = a j) ∧ (∀ j : Nat, j < n → j ≠ k → E' j = E j) ∧ E' k = .inr (1, [.ref (a' n), .ref (a' (n + 1)), .ref (a' (n + 2)), zz_v 0]) ∧ E' n = .inl (G.2.1 0, 512, .inl (fun _ => Int32.ofInt 0)) ∧ E' (n + 1) = .inl (G.2.1 0, 512, .inl (fun _ => Int32.ofInt 0)) ∧ E' (n + 2) = .inl (G.2.1 0, 512, .inl (fun _ => Int32.ofInt 0))) := by
  refine Kt_.of (cc := cX1_init) (maxL := 1) (by decide) rfl (Nat.le_of_ble_eq_true rfl) ?_
  intro p e s m args below meth c hC hts hr hlk hnm hN hK
  have w1 : ∀ w ∈ u_ws RX1 TX1 4, w.before args s = true := fun w h => hts w (List.mem_cons_of_mem _ (List.mem_append_right _ h))
  have f9 : (Cond.fieldLink RX1 9 "Grievancehall$Changes" "things" "[I").before args s = true := hts _ (by decide +kernel)
  have f15 : (Cond.fieldLink RX1 15 "Grievancehall$Changes" "days" "[I").before args s = true := hts _ (by decide +kernel)
  have f18 : (Cond.fieldLink RX1 18 "Grievancehall$Changes" "values" "[I").before args s = true := hts _ (by decide +kernel)
  refine cd_lveq (lv' := [(0, .ref (a k))]) rfl ?_
  refine cd_aload_n hC dX1_init_0 rfl (j := 0) rfl ?_
  refine cd_obj hC (hts _ (by decide +kernel)) (hts _ (by decide +kernel)) (hts _ (by decide +kernel)) (by decide) (Nat.le_of_ble_eq_true rfl) dX1_init_1 ?_
  refine cd_aload_n hC dX1_init_4 rfl (j := 0) rfl ?_
  refine cd_sipush hC dX1_init_5 rfl ?_
  refine cd_newa hC (G := G) rfl hN (atype := .int) (hts _ (by decide +kernel)) rfl hK.1 0 rfl (N := 512) (x := .inl (fun _ => Int32.ofInt 0)) (fun _ => rfl) rfl (Nat.le_of_ble_eq_true rfl) (Nat.le_of_ble_eq_true rfl) (Nat.le_of_ble_eq_true rfl) (Nat.le_of_ble_eq_true rfl) dX1_init_8 (fun q8 => ?_)
  refine cd_num (k' := 1) (ms' := 512) (n' := n + 1) rfl rfl rfl ?_
  refine cd_putF hC (b := k) (fs := [.null, .null, .null, zz_v 0]) w1 tyX1 tyX1_ok nmX1 hK.1 (by omega) ((va_up_ne _ _ (by omega)).trans rfl) ((va_up_ne _ _ (by omega)).trans hE) rfl 0 (by decide) f9 rfl rfl hnm rfl rfl rfl rfl (Nat.le_of_ble_eq_true rfl) dX1_init_10 ?_
  refine cd_aload_n hC dX1_init_13 rfl (j := 0) rfl ?_
  refine cd_sipush hC dX1_init_14 rfl ?_
  refine cd_newa hC (G := G) rfl hN (atype := .int) (hts _ (by decide +kernel)) rfl hK.1 0 rfl (N := 512) (x := .inl (fun _ => Int32.ofInt 0)) (fun _ => rfl) rfl (Nat.le_of_ble_eq_true rfl) (Nat.le_of_ble_eq_true rfl) (Nat.le_of_ble_eq_true rfl) (Nat.le_of_ble_eq_true rfl) dX1_init_17 (fun q17 => ?_)
  refine cd_num (k' := 2) (ms' := 1024) (n' := n + 2) rfl rfl rfl ?_
  refine cd_putF hC (b := k) (fs := [.ref q8, .null, .null, zz_v 0]) w1 tyX1 tyX1_ok nmX1 hK.1 (by omega) ((va_up_ne _ _ (by omega)).trans ((va_up_ne _ _ (by omega)).trans rfl)) ((va_up_ne _ _ (by omega)).trans (va_up_self _ _ _)) rfl 1 (by decide) f15 rfl rfl hnm rfl rfl rfl rfl (Nat.le_of_ble_eq_true rfl) dX1_init_19 ?_
  refine cd_aload_n hC dX1_init_22 rfl (j := 0) rfl ?_
  refine cd_sipush hC dX1_init_23 rfl ?_
  refine cd_newa hC (G := G) rfl hN (atype := .int) (hts _ (by decide +kernel)) rfl hK.1 0 rfl (N := 512) (x := .inl (fun _ => Int32.ofInt 0)) (fun _ => rfl) rfl (Nat.le_of_ble_eq_true rfl) (Nat.le_of_ble_eq_true rfl) (Nat.le_of_ble_eq_true rfl) (Nat.le_of_ble_eq_true rfl) dX1_init_26 (fun q26 => ?_)
  refine cd_num (k' := 3) (ms' := 1536) (n' := n + 3) rfl rfl rfl ?_
  refine cd_putF hC (b := k) (fs := [.ref q8, .ref q17, .null, zz_v 0]) w1 tyX1 tyX1_ok nmX1 hK.1 (by omega) ((va_up_ne _ _ (by omega)).trans ((va_up_ne _ _ (by omega)).trans ((va_up_ne _ _ (by omega)).trans rfl))) ((va_up_ne _ _ (by omega)).trans (va_up_self _ _ _)) rfl 2 (by decide) f18 rfl rfl hnm rfl rfl rfl rfl (Nat.le_of_ble_eq_true rfl) dX1_init_28 ?_
  exact cd_return (G := G) rfl hC hr hlk dX1_init_31 (Nat.le_of_ble_eq_true rfl) (Nat.le_of_ble_eq_true rfl) rfl ⟨fun j hj => (by simp (disch := omega) only [va_up_ne, va_up_self]), fun j hj hk2 => (by simp (disch := omega) only [va_up_ne, va_up_self]), (by first | (simp (disch := omega) only [va_up_ne, va_up_self]; done) | (simp (disch := omega) only [va_up_ne, va_up_self]; rfl)), (by first | (simp (disch := omega) only [va_up_ne, va_up_self]; done) | (simp (disch := omega) only [va_up_ne, va_up_self]; rfl)), (by first | (simp (disch := omega) only [va_up_ne, va_up_self]; done) | (simp (disch := omega) only [va_up_ne, va_up_self]; rfl)), (by first | (simp (disch := omega) only [va_up_ne, va_up_self]; done) | (simp (disch := omega) only [va_up_ne, va_up_self]; rfl))⟩

abbrev rm_X0_init : Room := { frames := 1, cells := 1, slots := 10, locals := 12 }
set_option maxHeartbeats 4000000 in
set_option maxRecDepth 100000 in
theorem c_X0_init (l : Launch) (N0 : Nat) (G : zz_G) (a : Nat → Nat) (E : Nat → va_E) (n k : Nat) (hk : k < n) (hE : E k = .inr (0, [zz_v 0, zz_v 0, zz_v 0, zz_v 0, zz_v 0, zz_v 0, zz_v 0, zz_v 0, .null])) : Kt_ l yX0_init wsX0_init rm_X0_init 1 10 [.ref (a k)] N0 G a E (n) (n + 1) (fun a' E' => (∀ j : Nat, j < n → a' j = a j) ∧ (∀ j : Nat, j < n → j ≠ k → E' j = E j) ∧ E' k = .inr (0, [zz_v 0, zz_v 0, zz_v 0, zz_v 0, zz_v 0, zz_v 0, zz_v 0, zz_v (-1), .ref (a' n)]) ∧ E' n = .inl (G.2.1 0, 10, .inl (fun q => Int32.ofInt (if q < 10 then (-1) else 0)))) := by
  refine Kt_.of (cc := cX0_init) (maxL := 2) (by decide) rfl (Nat.le_of_ble_eq_true rfl) ?_
  intro p e s m args below meth c hC hts hr hlk hnm hN hK
  have w0 : ∀ w ∈ u_ws RX0 TX0 9, w.before args s = true := fun w h => hts w (List.mem_cons_of_mem _ (List.mem_append_right _ h))
  have f9 : (Cond.fieldLink RX0 9 "Grievancehall$Act" "pleaDays" "[I").before args s = true := hts _ (by decide +kernel)
  have f15 : (Cond.fieldLink RX0 15 "Grievancehall$Act" "remedySum" "I").before args s = true := hts _ (by decide +kernel)
  refine cd_lveq (lv' := [(0, .ref (a k))]) rfl ?_
  refine cd_aload_n hC dX0_init_0 rfl (j := 0) rfl ?_
  refine cd_obj hC (hts _ (by decide +kernel)) (hts _ (by decide +kernel)) (hts _ (by decide +kernel)) (by decide) (Nat.le_of_ble_eq_true rfl) dX0_init_1 ?_
  refine cd_aload_n hC dX0_init_4 rfl (j := 0) rfl ?_
  refine cd_bipush hC dX0_init_5 rfl ?_
  refine cd_newa hC (G := G) rfl hN (atype := .int) (hts _ (by decide +kernel)) rfl hK.1 0 rfl (N := 10) (x := .inl (fun _ => Int32.ofInt 0)) (fun _ => rfl) rfl (Nat.le_of_ble_eq_true rfl) (Nat.le_of_ble_eq_true rfl) (Nat.le_of_ble_eq_true rfl) (Nat.le_of_ble_eq_true rfl) dX0_init_7 (fun q7 => ?_)
  refine cd_num (k' := 1) (ms' := 10) (n' := n + 1) rfl rfl rfl ?_
  refine cd_putF hC (b := k) (fs := [zz_v 0, zz_v 0, zz_v 0, zz_v 0, zz_v 0, zz_v 0, zz_v 0, zz_v 0, .null]) w0 tyX0 tyX0_ok nmX0 hK.1 (by omega) ((va_up_ne _ _ (by omega)).trans rfl) ((va_up_ne _ _ (by omega)).trans hE) rfl 8 (by decide) f9 rfl rfl hnm rfl rfl rfl rfl (Nat.le_of_ble_eq_true rfl) dX0_init_9 ?_
  refine cd_iconst hC dX0_init_12 ?_
  refine cd_istore_n hC dX0_init_13 rfl (by decide) (lv' := [(1, zz_v 0), (0, .ref (a k))]) rfl ?_
  refine cd_put0 (b := n) (e9 := .inl (G.2.1 0, 10, .inl (fun q => Int32.ofInt (if q < 0 then (-1) else 0)))) (((va_up_ne _ _ (by omega)).trans (va_up_self _ _ _)).trans (by rw [← zc_f0])) ?_
  refine cd_lveq (lv' := [(1, zz_v ((0 : Nat) : Int)), (0, .ref (a k))]) rfl ?_
  refine cd_fill (G := G) (k9 := k) (b := n) (fs := [zz_v 0, zz_v 0, zz_v 0, zz_v 0, zz_v 0, zz_v 0, zz_v 0, zz_v 0, .ref q7]) (N := 10) (v := (-1)) hC hK.1 dX0_init_14 (fun E9 lv9 st9 k9 => cd_bipush hC dX0_init_15 rfl k9) dX0_init_17 (tgt := 33) (by decide) dX0_init_20 w0 (by omega) ((va_up_ne _ _ (by omega)).trans rfl) (va_up_self _ _ _) rfl 8 (by decide) f9 rfl rfl (by omega) (va_up_self _ _ _) (by omega) dX0_init_21 dX0_init_24 (fun E9 lv9 st9 k9 => cd_iconst hC dX0_init_25 k9) dX0_init_26 dX0_init_27 dX0_init_30 (by decide) (by decide) ?_
  refine cd_aload_n hC dX0_init_33 rfl (j := 1) rfl ?_
  refine cd_iconst hC dX0_init_34 ?_
  refine cd_put hC (b := k) (fs := [zz_v 0, zz_v 0, zz_v 0, zz_v 0, zz_v 0, zz_v 0, zz_v 0, zz_v 0, .ref q7]) w0 tyX0 tyX0_ok nmX0 hK.1 (by omega) ((va_up_ne _ _ (by omega)).trans rfl) ((va_up_ne _ _ (by omega)).trans (va_up_self _ _ _)) rfl 7 (by decide) f15 rfl rfl rfl rfl rfl (Nat.le_of_ble_eq_true rfl) dX0_init_35 ?_
  exact cd_return (G := G) rfl hC hr hlk dX0_init_38 (Nat.le_of_ble_eq_true rfl) (Nat.le_of_ble_eq_true rfl) rfl ⟨fun j hj => (by simp (disch := omega) only [va_up_ne, va_up_self]), fun j hj hk2 => (by simp (disch := omega) only [va_up_ne, va_up_self]), (by first | (simp (disch := omega) only [va_up_ne, va_up_self]; done) | (simp (disch := omega) only [va_up_ne, va_up_self]; rfl)), (by first | (simp (disch := omega) only [va_up_ne, va_up_self]; done) | (simp (disch := omega) only [va_up_ne, va_up_self]; rfl))⟩

abbrev rm_X2_init : Room := { frames := 1, cells := 0, slots := 0, locals := 12 }
set_option maxHeartbeats 4000000 in
set_option maxRecDepth 100000 in
theorem c_X2_init (l : Launch) (N0 : Nat) (G : zz_G) (a : Nat → Nat) (E : Nat → va_E) (n k : Nat) : Kt_ l yX2_init wsX2_init rm_X2_init 0 0 [.ref (a k)] N0 G a E (n) (n) (fun a' E' => a' = a ∧ E' = E) := by
  refine Kt_.of (cc := cX2_init) (maxL := 1) (by decide) rfl (Nat.le_of_ble_eq_true rfl) ?_
  intro p e s m args below meth c hC hts hr hlk hnm hN hK
  refine cd_lveq (lv' := [(0, .ref (a k))]) rfl ?_
  refine cd_aload_n hC dX2_init_0 rfl (j := 0) rfl ?_
  refine cd_obj hC (hts _ (by decide +kernel)) (hts _ (by decide +kernel)) (hts _ (by decide +kernel)) (by decide) (Nat.le_of_ble_eq_true rfl) dX2_init_1 ?_
  exact cd_return (G := G) rfl hC hr hlk dX2_init_4 (Nat.le_of_ble_eq_true rfl) (Nat.le_of_ble_eq_true rfl) rfl ⟨rfl, rfl⟩
