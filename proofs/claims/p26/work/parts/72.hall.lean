def zc_I1 (G : zz_G) (aB : Nat → Nat) (EB : Nat → va_E) (i : Nat) (a : Nat → Nat) (E : Nat → va_E) : Prop := (∀ j : Nat, j < 12 → a j = aB j) ∧ (∀ j : Nat, j < 11 → E j = EB j) ∧ (∃ f : Nat → Option Nat, E 11 = .inl (G.2.1 2, 24, .inr (.inr (.inr (.inr f)))) ∧ ∀ q : Nat, q < i → f q = some (a (12 + 2 * q))) ∧ ∀ q : Nat, q < i → E (12 + 2 * q) = .inr (0, [zz_v 0, zz_v 0, zz_v 0, zz_v 0, zz_v 0, zz_v 0, zz_v 0, zz_v (-1), .ref (a (13 + 2 * q))]) ∧ E (13 + 2 * q) = .inl (G.2.1 0, 10, .inl (fun q => Int32.ofInt (if q < 10 then (-1) else 0)))
def zc_I2 (G : zz_G) (aB : Nat → Nat) (EB : Nat → va_E) (i : Nat) (a : Nat → Nat) (E : Nat → va_E) : Prop := (∀ j : Nat, j < 61 → a j = aB j) ∧ (∀ j : Nat, j < 60 → E j = EB j) ∧ (∃ f : Nat → Option Nat, E 60 = .inl (G.2.1 3, 16, .inr (.inr (.inr (.inr f)))) ∧ ∀ q : Nat, q < i → f q = some (a (61 + q))) ∧ ∀ q : Nat, q < i → E (61 + q) = .inr (2, [zz_v 0, zz_v 0, zz_v 0, zz_v 0, zz_v 0, zz_v 0, zz_v 0, zz_v 0])
theorem Kt_.av {l : Launch} {y : MethodName} {ws : List Cond} {rm : Room} {mc ms x z : Nat} {N0 : Nat} {G : zz_G} {a : Nat → Nat} {E : Nat → va_E} {n n' : Nat} {post : (Nat → Nat) → (Nat → va_E) → Prop} (h : x = z) (k : Kt_ l y ws rm mc ms [.ref x] N0 G a E n n' post) : Kt_ l y ws rm mc ms [.ref z] N0 G a E n n' post := h ▸ k
theorem cd_gen {p : Program} {l : Launch} {e : Env} {R : Room} {s : State} {m : MethodId} {args : Array Value} {below : List Frame} {meth : Method} {c : Code} {Q : State → Prop} {N0 : Nat} {D : va_G × va_W} {nL k ms n : Nat} {a : Nat → Nat} {E : Nat → va_E} {pc : Nat} {lv : List (Nat × Value)} {st : List Value} (kk : ∀ (aB : Nat → Nat) (EB : Nat → va_E), aB = a → EB = E → Cd_ p l e R s m args below meth c Q N0 D nL k ms n aB EB pc lv st) : Cd_ p l e R s m args below meth c Q N0 D nL k ms n a E pc lv st := kk a E rfl rfl
abbrev rm_X3_init : Room := { frames := 2, cells := 76, slots := 3721, locals := 33 }
set_option maxHeartbeats 4000000 in
set_option maxRecDepth 100000 in
theorem X3_loop1 {p : Program} {l : Launch} {e : Env} {s : State} {m : MethodId} {args : Array Value} {below : List Frame} {meth : Method} {c : Code} {Q : State → Prop} {N0 : Nat} {G : zz_G} (hC : zz_C p c cX3_init 2 s m RX3) (hts : ∀ w ∈ wsX3_init, w.before args s = true) (hN : N0 ≤ s.heap.size) (hK : zc_K G s) {x y : Nat} {aB : Nat → Nat} {EB : Nat → va_E} {fs : List Value} (hx : aB 0 = x) (hE0 : EB 0 = .inr (3, fs)) (hf6 : fs[6]? = some (.ref y)) (hy : aB 11 = y)
    (kk : ∀ (a : Nat → Nat) (E : Nat → va_E), zc_I1 G aB EB 24 a E → Cd_ p l e rm_X3_init s m args below meth c Q N0 (G.1, G.2.2) 2 59 3577 60 a E 78 [(1, zz_v ((24 : Nat) : Int)), (0, .ref x)] []) :
    ∀ (f i : Nat) (a : Nat → Nat) (E : Nat → va_E), f + i = 24 → zc_I1 G aB EB i a E → Cd_ p l e rm_X3_init s m args below meth c Q N0 (G.1, G.2.2) 2 (11 + 2 * i) (3121 + 19 * i) (12 + 2 * i) a E 53 [(1, zz_v (i : Int)), (0, .ref x)] [] := by
  have w3 : ∀ w ∈ u_ws RX3 TX3 11, w.before args s = true := fun w h => hts w (List.mem_cons_of_mem _ (List.mem_append_left _ (List.mem_append_left _ (List.mem_append_left _ (List.mem_append_right _ h)))))
  have w0 : ∀ w ∈ u_ws RX0 TX0 9, w.before args s = true := fun w h => hts w (List.mem_cons_of_mem _ (List.mem_append_left _ (List.mem_append_right _ h)))
  have f29 : (Cond.fieldLink RX3 29 "Grievancehall" "acts" "[LGrievancehall$Act;").before args s = true := hts _ (by decide +kernel)
  intro f
  induction f with
  | zero =>
    intro i a E hi hI
    have e9 : i = 24 := by omega
    subst e9
    refine cd_iload_n hC dX3_init_53 rfl (j := 0) rfl ?_
    refine cd_bipush hC dX3_init_54 rfl ?_
    exact cd_icmp_ge hC dX3_init_56 (tgt := 78) (by decide) ⟨by decide, by decide⟩ ⟨by decide, by decide⟩ (fun _ => kk a E hI) (fun c1 => absurd (by decide) c1)
  | succ f ih =>
    intro i a E hi hI
    refine cd_iload_n hC dX3_init_53 rfl (j := 0) rfl ?_
    refine cd_bipush hC dX3_init_54 rfl ?_
    refine cd_icmp_ge hC dX3_init_56 (tgt := 78) (by decide) ⟨by omega, by omega⟩ ⟨by decide, by decide⟩ (fun c1 => absurd c1 (by omega)) (fun c1 => ?_)
    refine cd_aload_n hC dX3_init_59 rfl (j := 1) rfl ?_
    refine cd_get hC (b := 0) (fs := fs) w3 hK.1 (by omega) ((hI.1 0 (by omega)).trans hx) ((hI.2.1 0 (by omega)).trans hE0) rfl 6 (by decide) f29 rfl hf6 dX3_init_60 ?_
    refine cd_iload_n hC dX3_init_63 rfl (j := 0) rfl ?_
    refine cd_new hC (C := RX0) (T := TX0) (N := 9) (ci := 0) (fs := [zz_v 0, zz_v 0, zz_v 0, zz_v 0, zz_v 0, zz_v 0, zz_v 0, zz_v 0, .null]) hN w0 tyX0 tyX0_ok (hts _ (by decide +kernel)) (hts _ (by decide +kernel)) (hts _ (by decide +kernel)) hK.1 rfl (fun j hj => by rcases (show j = 0 ∨ j = 1 ∨ j = 2 ∨ j = 3 ∨ j = 4 ∨ j = 5 ∨ j = 6 ∨ j = 7 ∨ j = 8 by omega) with rfl | rfl | rfl | rfl | rfl | rfl | rfl | rfl | rfl <;> rfl) (show _ ≤ 76 by omega) (show _ ≤ 3721 by omega) dX3_init_64 (fun q => ?_)
    refine cd_dup hC dX3_init_67 rfl ?_
    refine cd_callI (G := G) (As := []) (rest := [.ref q, zz_v (i : Int), .ref y]) rfl hC hN hK (Kt_.av (va_up_self _ _ _) (c_X0_init l N0 G _ _ (12 + 2 * i + 1) (12 + 2 * i) (by omega) (va_up_self _ _ _))) (cwI 0 hts gX3_init_X0_init rfl rfl rfl (hts (.initialized RX0) (by decide +kernel)) (hts (.methodLink RX3 33 yX0_init) (by decide +kernel)) (hts (.instanceMethod yX0_init) (by decide +kernel)) rfl (by decide +kernel) ⟨Nat.le_of_ble_eq_true rfl, Nat.le_of_ble_eq_true rfl⟩) rfl rfl (Nat.le_of_ble_eq_true rfl) dX3_init_68 ⟨show _ ≤ 76 by omega, show _ ≤ 3721 by omega⟩ (fun a2 E2 hp => ?_)
    obtain ⟨h1, h2, h3, h4⟩ := hp
    have hq : a2 (12 + 2 * i) = q := (h1 _ (by omega)).trans (va_up_self _ _ _)
    have hlo : ∀ j : Nat, j < 12 + 2 * i → a2 j = a j := fun j hj => (h1 j (by omega)).trans (va_up_ne _ _ (by omega))
    have hEl : ∀ j : Nat, j < 12 + 2 * i → E2 j = E j := fun j hj => (h2 j (by omega) (by omega)).trans (va_up_ne _ _ (by omega))
    obtain ⟨i1, i2, ⟨fr, i3, i4⟩, i5⟩ := hI
    refine cd_astq hC (b := 11) (g := 12 + 2 * i) (t := 2) (ci := 0) (r := (RX0, TX0, 9)) (j := i) hK.1 rfl (by omega) ((hlo 11 (by omega)).trans ((i1 11 (by omega)).trans hy)) ((hEl 11 (by omega)).trans i3) (by omega) hq h3 rfl rfl (by omega) (by decide) dX3_init_71 ?_
    refine cd_iinc hC dX3_init_72 (j := 0) rfl (y := ((i + 1 : Nat) : Int)) (by omega) (by decide) (lv' := [(1, zz_v ((i + 1 : Nat) : Int)), (0, .ref x)]) rfl ?_
    refine cd_goto hC dX3_init_75 (tgt := 53) (by decide) ?_
    refine cd_num (k' := 11 + 2 * (i + 1)) (ms' := 3121 + 19 * (i + 1)) (n' := 12 + 2 * (i + 1)) (by omega) (by omega) (by omega) ?_
    refine ih (i + 1) a2 _ (by omega) ⟨fun j hj => (hlo j (by omega)).trans (i1 j hj), fun j hj => (va_up_ne _ _ (by omega)).trans ((hEl j (by omega)).trans (i2 j hj)), ⟨va_up fr i (some q), va_up_self _ _ _, fun r hr => ?_⟩, fun r hr => ?_⟩
    · by_cases e9 : r = i
      · rw [e9, va_up_self, hq]
      · rw [va_up_ne _ _ e9, i4 r (by omega), hlo _ (by omega)]
    · rw [va_up_ne _ _ (by omega), va_up_ne _ _ (by omega)]
      by_cases e9 : r = i
      · rw [e9, show 13 + 2 * i = 12 + 2 * i + 1 by omega]
        exact ⟨h3, h4⟩
      · rw [hEl _ (by omega), hEl _ (by omega), hlo _ (by omega)]
        exact i5 r (by omega)
set_option maxHeartbeats 4000000 in
set_option maxRecDepth 100000 in
theorem X3_loop2 {p : Program} {l : Launch} {e : Env} {s : State} {m : MethodId} {args : Array Value} {below : List Frame} {meth : Method} {c : Code} {Q : State → Prop} {N0 : Nat} {G : zz_G} (hC : zz_C p c cX3_init 2 s m RX3) (hts : ∀ w ∈ wsX3_init, w.before args s = true) (hN : N0 ≤ s.heap.size) (hK : zc_K G s) {x y : Nat} {aB : Nat → Nat} {EB : Nat → va_E} {fs : List Value} (hx : aB 0 = x) (hE0 : EB 0 = .inr (3, fs)) (hf8 : fs[8]? = some (.ref y)) (hy : aB 60 = y)
    (kk : ∀ (a : Nat → Nat) (E : Nat → va_E), zc_I2 G aB EB 16 a E → Cd_ p l e rm_X3_init s m args below meth c Q N0 (G.1, G.2.2) 2 76 3721 77 a E 114 [(1, zz_v ((16 : Nat) : Int)), (0, .ref x)] []) :
    ∀ (f i : Nat) (a : Nat → Nat) (E : Nat → va_E), f + i = 16 → zc_I2 G aB EB i a E → Cd_ p l e rm_X3_init s m args below meth c Q N0 (G.1, G.2.2) 2 (60 + i) (3593 + 8 * i) (61 + i) a E 89 [(1, zz_v (i : Int)), (0, .ref x)] [] := by
  have w3 : ∀ w ∈ u_ws RX3 TX3 11, w.before args s = true := fun w h => hts w (List.mem_cons_of_mem _ (List.mem_append_left _ (List.mem_append_left _ (List.mem_append_left _ (List.mem_append_right _ h)))))
  have w2 : ∀ w ∈ u_ws RX2 TX2 8, w.before args s = true := fun w h => hts w (List.mem_cons_of_mem _ (List.mem_append_right _ h))
  have f36 : (Cond.fieldLink RX3 36 "Grievancehall" "complaints" "[LGrievancehall$Complaint;").before args s = true := hts _ (by decide +kernel)
  intro f
  induction f with
  | zero =>
    intro i a E hi hI
    have e9 : i = 16 := by omega
    subst e9
    refine cd_iload_n hC dX3_init_89 rfl (j := 0) rfl ?_
    refine cd_bipush hC dX3_init_90 rfl ?_
    exact cd_icmp_ge hC dX3_init_92 (tgt := 114) (by decide) ⟨by decide, by decide⟩ ⟨by decide, by decide⟩ (fun _ => kk a E hI) (fun c1 => absurd (by decide) c1)
  | succ f ih =>
    intro i a E hi hI
    refine cd_iload_n hC dX3_init_89 rfl (j := 0) rfl ?_
    refine cd_bipush hC dX3_init_90 rfl ?_
    refine cd_icmp_ge hC dX3_init_92 (tgt := 114) (by decide) ⟨by omega, by omega⟩ ⟨by decide, by decide⟩ (fun c1 => absurd c1 (by omega)) (fun c1 => ?_)
    refine cd_aload_n hC dX3_init_95 rfl (j := 1) rfl ?_
    refine cd_get hC (b := 0) (fs := fs) w3 hK.1 (by omega) ((hI.1 0 (by omega)).trans hx) ((hI.2.1 0 (by omega)).trans hE0) rfl 8 (by decide) f36 rfl hf8 dX3_init_96 ?_
    refine cd_iload_n hC dX3_init_99 rfl (j := 0) rfl ?_
    refine cd_new hC (C := RX2) (T := TX2) (N := 8) (ci := 2) (fs := [zz_v 0, zz_v 0, zz_v 0, zz_v 0, zz_v 0, zz_v 0, zz_v 0, zz_v 0]) hN w2 tyX2 tyX2_ok (hts _ (by decide +kernel)) (hts _ (by decide +kernel)) (hts _ (by decide +kernel)) hK.1 rfl (fun j hj => by rcases (show j = 0 ∨ j = 1 ∨ j = 2 ∨ j = 3 ∨ j = 4 ∨ j = 5 ∨ j = 6 ∨ j = 7 by omega) with rfl | rfl | rfl | rfl | rfl | rfl | rfl | rfl <;> rfl) (show _ ≤ 76 by omega) (show _ ≤ 3721 by omega) dX3_init_100 (fun q => ?_)
    refine cd_dup hC dX3_init_103 rfl ?_
    refine cd_callI (G := G) (As := []) (rest := [.ref q, zz_v (i : Int), .ref y]) rfl hC hN hK (Kt_.av (va_up_self _ _ _) (c_X2_init l N0 G _ _ (61 + i + 1) (61 + i))) (cwI 0 hts gX3_init_X2_init rfl rfl rfl (hts (.initialized RX2) (by decide +kernel)) (hts (.methodLink RX3 40 yX2_init) (by decide +kernel)) (hts (.instanceMethod yX2_init) (by decide +kernel)) rfl (by decide +kernel) ⟨Nat.le_of_ble_eq_true rfl, Nat.le_of_ble_eq_true rfl⟩) rfl rfl (Nat.le_of_ble_eq_true rfl) dX3_init_104 ⟨show _ ≤ 76 by omega, show _ ≤ 3721 by omega⟩ (fun a2 E2 hp => ?_)
    obtain ⟨rfl, rfl⟩ := hp
    obtain ⟨i1, i2, ⟨fr, i3, i4⟩, i5⟩ := hI
    refine cd_astq hC (b := 60) (g := 61 + i) (t := 3) (ci := 2) (r := (RX2, TX2, 8)) (vs := [zz_v 0, zz_v 0, zz_v 0, zz_v 0, zz_v 0, zz_v 0, zz_v 0, zz_v 0]) (j := i) hK.1 rfl (by omega) ((va_up_ne _ _ (by omega)).trans ((i1 60 (by omega)).trans hy)) ((va_up_ne _ _ (by omega)).trans i3) (by omega) (va_up_self _ _ _) (va_up_self _ _ _) rfl rfl (by omega) (by decide) dX3_init_107 ?_
    refine cd_iinc hC dX3_init_108 (j := 0) rfl (y := ((i + 1 : Nat) : Int)) (by omega) (by decide) (lv' := [(1, zz_v ((i + 1 : Nat) : Int)), (0, .ref x)]) rfl ?_
    refine cd_goto hC dX3_init_111 (tgt := 89) (by decide) ?_
    refine cd_num (k' := 60 + (i + 1)) (ms' := 3593 + 8 * (i + 1)) (n' := 61 + (i + 1)) (by omega) (by omega) (by omega) ?_
    refine ih (i + 1) _ _ (by omega) ⟨fun j hj => (va_up_ne _ _ (by omega)).trans (i1 j hj), fun j hj => (va_up_ne _ _ (by omega)).trans ((va_up_ne _ _ (by omega)).trans (i2 j hj)), ⟨va_up fr i (some q), va_up_self _ _ _, fun r hr => ?_⟩, fun r hr => ?_⟩
    · by_cases e9 : r = i
      · rw [e9, va_up_self, va_up_self]
      · rw [va_up_ne _ _ e9, i4 r (by omega), va_up_ne _ _ (by omega)]
    · rw [va_up_ne _ _ (by omega)]
      by_cases e9 : r = i
      · rw [e9, va_up_self]
      · rw [va_up_ne _ _ (by omega)]
        exact i5 r (by omega)
set_option maxHeartbeats 4000000 in
set_option maxRecDepth 100000 in
theorem c_X3_init (l : Launch) (N0 : Nat) (G : zz_G) (a : Nat → Nat) (E : Nat → va_E) (hE : E 0 = .inr (3, [.null, zz_v 0, .null, zz_v 0, .null, .null, .null, zz_v 0, .null, zz_v 0, zz_v 0])) : Kt_ l yX3_init wsX3_init rm_X3_init 76 3721 [.ref (a 0)] N0 G a E (1) (77) (fun a' E' => a' 0 = a 0 ∧ E' 0 = .inr (3, [.ref (a' 1), zz_v 0, .ref (a' 2), zz_v 0, .ref (a' 3), .ref (a' 7), .ref (a' 11), zz_v 0, .ref (a' 60), zz_v 0, zz_v 0]) ∧ E' 1 = .inl (G.2.1 1, 7, .inl (fun _ => Int32.ofInt 0)) ∧ E' 2 = .inl (G.2.1 0, 10, .inl (fun _ => Int32.ofInt 0)) ∧ E' 3 = .inr (1, [.ref (a' 4), .ref (a' 5), .ref (a' 6), zz_v 0]) ∧ E' 4 = .inl (G.2.1 0, 512, .inl (fun _ => Int32.ofInt 0)) ∧ E' 5 = .inl (G.2.1 0, 512, .inl (fun _ => Int32.ofInt 0)) ∧ E' 6 = .inl (G.2.1 0, 512, .inl (fun _ => Int32.ofInt 0)) ∧ E' 7 = .inr (1, [.ref (a' 8), .ref (a' 9), .ref (a' 10), zz_v 0]) ∧ E' 8 = .inl (G.2.1 0, 512, .inl (fun _ => Int32.ofInt 0)) ∧ E' 9 = .inl (G.2.1 0, 512, .inl (fun _ => Int32.ofInt 0)) ∧ E' 10 = .inl (G.2.1 0, 512, .inl (fun _ => Int32.ofInt 0)) ∧ (∃ f : Nat → Option Nat, E' 11 = .inl (G.2.1 2, 24, .inr (.inr (.inr (.inr f)))) ∧ ∀ q : Nat, q < 24 → f q = some (a' (12 + 2 * q))) ∧ (∀ q : Nat, q < 24 → E' (12 + 2 * q) = .inr (0, [zz_v 0, zz_v 0, zz_v 0, zz_v 0, zz_v 0, zz_v 0, zz_v 0, zz_v (-1), .ref (a' (13 + 2 * q))]) ∧ E' (13 + 2 * q) = .inl (G.2.1 0, 10, .inl (fun q => Int32.ofInt (if q < 10 then (-1) else 0)))) ∧ (∃ f : Nat → Option Nat, E' 60 = .inl (G.2.1 3, 16, .inr (.inr (.inr (.inr f)))) ∧ ∀ q : Nat, q < 16 → f q = some (a' (61 + q))) ∧ ∀ q : Nat, q < 16 → E' (61 + q) = .inr (2, [zz_v 0, zz_v 0, zz_v 0, zz_v 0, zz_v 0, zz_v 0, zz_v 0, zz_v 0])) := by
  refine Kt_.of (cc := cX3_init) (maxL := 2) (by decide) rfl (Nat.le_of_ble_eq_true rfl) ?_
  intro p e s m args below meth c hC hts hr hlk hnm hN hK
  have w3 : ∀ w ∈ u_ws RX3 TX3 11, w.before args s = true := fun w h => hts w (List.mem_cons_of_mem _ (List.mem_append_left _ (List.mem_append_left _ (List.mem_append_left _ (List.mem_append_right _ h)))))
  have f9 : (Cond.fieldLink RX3 9 "Grievancehall" "typed" "[C").before args s = true := hts _ (by decide +kernel)
  have f13 : (Cond.fieldLink RX3 13 "Grievancehall" "aboveOffice" "[I").before args s = true := hts _ (by decide +kernel)
  have f20 : (Cond.fieldLink RX3 20 "Grievancehall" "delegations" "LGrievancehall$Changes;").before args s = true := hts _ (by decide +kernel)
  have f24 : (Cond.fieldLink RX3 24 "Grievancehall" "limits" "LGrievancehall$Changes;").before args s = true := hts _ (by decide +kernel)
  have f29 : (Cond.fieldLink RX3 29 "Grievancehall" "acts" "[LGrievancehall$Act;").before args s = true := hts _ (by decide +kernel)
  have f36 : (Cond.fieldLink RX3 36 "Grievancehall" "complaints" "[LGrievancehall$Complaint;").before args s = true := hts _ (by decide +kernel)
  have w1 : ∀ w ∈ u_ws RX1 TX1 4, w.before args s = true := fun w h => hts w (List.mem_cons_of_mem _ (List.mem_append_left _ (List.mem_append_left _ (List.mem_append_right _ h))))
  refine cd_lveq (lv' := [(0, .ref (a 0))]) rfl ?_
  refine cd_aload_n hC dX3_init_0 rfl (j := 0) rfl ?_
  refine cd_obj hC (hts _ (by decide +kernel)) (hts _ (by decide +kernel)) (hts _ (by decide +kernel)) (by decide) (Nat.le_of_ble_eq_true rfl) dX3_init_1 ?_
  refine cd_aload_n hC dX3_init_4 rfl (j := 0) rfl ?_
  refine cd_bipush hC dX3_init_5 rfl ?_
  refine cd_newa hC (G := G) rfl hN (atype := .char) (hts _ (by decide +kernel)) rfl hK.1 1 rfl (N := 7) (x := .inl (fun _ => Int32.ofInt 0)) (fun _ => rfl) rfl (Nat.le_of_ble_eq_true rfl) (Nat.le_of_ble_eq_true rfl) (Nat.le_of_ble_eq_true rfl) (Nat.le_of_ble_eq_true rfl) dX3_init_7 (fun q7 => ?_)
  refine cd_num (k' := 1) (ms' := 7) (n' := 2) rfl rfl rfl ?_
  refine cd_putF hC (b := 0) (fs := [.null, zz_v 0, .null, zz_v 0, .null, .null, .null, zz_v 0, .null, zz_v 0, zz_v 0]) w3 tyX3 tyX3_ok nmX3 hK.1 (by omega) ((va_up_ne _ _ (by omega)).trans rfl) ((va_up_ne _ _ (by omega)).trans hE) rfl 0 (by decide) f9 rfl rfl hnm rfl rfl rfl rfl (Nat.le_of_ble_eq_true rfl) dX3_init_9 ?_
  refine cd_aload_n hC dX3_init_12 rfl (j := 0) rfl ?_
  refine cd_bipush hC dX3_init_13 rfl ?_
  refine cd_newa hC (G := G) rfl hN (atype := .int) (hts _ (by decide +kernel)) rfl hK.1 0 rfl (N := 10) (x := .inl (fun _ => Int32.ofInt 0)) (fun _ => rfl) rfl (Nat.le_of_ble_eq_true rfl) (Nat.le_of_ble_eq_true rfl) (Nat.le_of_ble_eq_true rfl) (Nat.le_of_ble_eq_true rfl) dX3_init_15 (fun q15 => ?_)
  refine cd_num (k' := 2) (ms' := 17) (n' := 3) rfl rfl rfl ?_
  refine cd_putF hC (b := 0) (fs := [.ref q7, zz_v 0, .null, zz_v 0, .null, .null, .null, zz_v 0, .null, zz_v 0, zz_v 0]) w3 tyX3 tyX3_ok nmX3 hK.1 (by omega) ((va_up_ne _ _ (by omega)).trans ((va_up_ne _ _ (by omega)).trans rfl)) ((va_up_ne _ _ (by omega)).trans (va_up_self _ _ _)) rfl 2 (by decide) f13 rfl rfl hnm rfl rfl rfl rfl (Nat.le_of_ble_eq_true rfl) dX3_init_17 ?_
  refine cd_aload_n hC dX3_init_20 rfl (j := 0) rfl ?_
  refine cd_new hC (C := RX1) (T := TX1) (N := 4) (ci := 1) (fs := [.null, .null, .null, zz_v 0]) hN w1 tyX1 tyX1_ok (hts _ (by decide +kernel)) (hts _ (by decide +kernel)) (hts _ (by decide +kernel)) hK.1 rfl (fun j hj => by rcases (show j = 0 ∨ j = 1 ∨ j = 2 ∨ j = 3 by omega) with rfl | rfl | rfl | rfl <;> rfl) (Nat.le_of_ble_eq_true rfl) (Nat.le_of_ble_eq_true rfl) dX3_init_21 (fun q21 => ?_)
  refine cd_num (k' := 3) (ms' := 21) (n' := 4) rfl rfl rfl ?_
  refine cd_dup hC dX3_init_24 rfl ?_
  refine cd_callI (G := G) (As := []) (rest := [.ref q21, .ref (a 0)]) rfl hC hN hK (Kt_.av (va_up_self _ _ _) (c_X1_init l N0 G _ _ 4 3 (by omega) (va_up_self _ _ _))) (cwI 0 hts gX3_init_X1_init rfl rfl rfl (hts (.initialized RX1) (by decide +kernel)) (hts (.methodLink RX3 19 yX1_init) (by decide +kernel)) (hts (.instanceMethod yX1_init) (by decide +kernel)) rfl (by decide +kernel) ⟨Nat.le_of_ble_eq_true rfl, Nat.le_of_ble_eq_true rfl⟩) rfl rfl (Nat.le_of_ble_eq_true rfl) dX3_init_25 ⟨Nat.le_of_ble_eq_true rfl, Nat.le_of_ble_eq_true rfl⟩ (fun a1 E1 h1 => ?_)
  have a1_0 : a1 0 = a (0) := (h1.1 0 (by omega)).trans ((va_up_ne _ _ (by omega)).trans ((va_up_ne _ _ (by omega)).trans ((va_up_ne _ _ (by omega)).trans rfl)))
  have a1_1 : a1 1 = q7 := (h1.1 1 (by omega)).trans ((va_up_ne _ _ (by omega)).trans ((va_up_ne _ _ (by omega)).trans (va_up_self _ _ _)))
  have a1_2 : a1 2 = q15 := (h1.1 2 (by omega)).trans ((va_up_ne _ _ (by omega)).trans (va_up_self _ _ _))
  have a1_3 : a1 3 = q21 := (h1.1 3 (by omega)).trans (va_up_self _ _ _)
  have E1_0 := (h1.2.1 0 (by omega) (by omega)).trans ((va_up_ne _ _ (by omega)).trans (va_up_self _ _ _))
  have E1_1 := (h1.2.1 1 (by omega) (by omega)).trans ((va_up_ne _ _ (by omega)).trans ((va_up_ne _ _ (by omega)).trans ((va_up_ne _ _ (by omega)).trans ((va_up_ne _ _ (by omega)).trans (va_up_self _ _ _)))))
  have E1_2 := (h1.2.1 2 (by omega) (by omega)).trans ((va_up_ne _ _ (by omega)).trans ((va_up_ne _ _ (by omega)).trans (va_up_self _ _ _)))
  have E1_3 := h1.2.2.1
  have E1_4 := h1.2.2.2.1
  have E1_5 := h1.2.2.2.2.1
  have E1_6 := h1.2.2.2.2.2
  refine cd_num (k' := 6) (ms' := 1557) (n' := 7) rfl rfl rfl ?_
  refine cd_putF hC (b := 0) (fs := [.ref q7, zz_v 0, .ref q15, zz_v 0, .null, .null, .null, zz_v 0, .null, zz_v 0, zz_v 0]) w3 tyX3 tyX3_ok nmX3 hK.1 (by omega) a1_0 E1_0 rfl 4 (by decide) f20 rfl rfl hnm rfl rfl rfl rfl (Nat.le_of_ble_eq_true rfl) dX3_init_28 ?_
  refine cd_aload_n hC dX3_init_31 rfl (j := 0) rfl ?_
  refine cd_new hC (C := RX1) (T := TX1) (N := 4) (ci := 1) (fs := [.null, .null, .null, zz_v 0]) hN w1 tyX1 tyX1_ok (hts _ (by decide +kernel)) (hts _ (by decide +kernel)) (hts _ (by decide +kernel)) hK.1 rfl (fun j hj => by rcases (show j = 0 ∨ j = 1 ∨ j = 2 ∨ j = 3 by omega) with rfl | rfl | rfl | rfl <;> rfl) (Nat.le_of_ble_eq_true rfl) (Nat.le_of_ble_eq_true rfl) dX3_init_32 (fun q32 => ?_)
  refine cd_num (k' := 7) (ms' := 1561) (n' := 8) rfl rfl rfl ?_
  refine cd_dup hC dX3_init_35 rfl ?_
  refine cd_callI (G := G) (As := []) (rest := [.ref q32, .ref (a 0)]) rfl hC hN hK (Kt_.av (va_up_self _ _ _) (c_X1_init l N0 G _ _ 8 7 (by omega) (va_up_self _ _ _))) (cwI 0 hts gX3_init_X1_init rfl rfl rfl (hts (.initialized RX1) (by decide +kernel)) (hts (.methodLink RX3 19 yX1_init) (by decide +kernel)) (hts (.instanceMethod yX1_init) (by decide +kernel)) rfl (by decide +kernel) ⟨Nat.le_of_ble_eq_true rfl, Nat.le_of_ble_eq_true rfl⟩) rfl rfl (Nat.le_of_ble_eq_true rfl) dX3_init_36 ⟨Nat.le_of_ble_eq_true rfl, Nat.le_of_ble_eq_true rfl⟩ (fun a2 E2 h2 => ?_)
  have a2_0 : a2 0 = a (0) := (h2.1 0 (by omega)).trans ((va_up_ne _ _ (by omega)).trans a1_0)
  have a2_1 : a2 1 = q7 := (h2.1 1 (by omega)).trans ((va_up_ne _ _ (by omega)).trans a1_1)
  have a2_2 : a2 2 = q15 := (h2.1 2 (by omega)).trans ((va_up_ne _ _ (by omega)).trans a1_2)
  have a2_3 : a2 3 = q21 := (h2.1 3 (by omega)).trans ((va_up_ne _ _ (by omega)).trans a1_3)
  have a2_4 : a2 4 = a1 4 := (h2.1 4 (by omega)).trans ((va_up_ne _ _ (by omega)).trans rfl)
  have a2_5 : a2 5 = a1 5 := (h2.1 5 (by omega)).trans ((va_up_ne _ _ (by omega)).trans rfl)
  have a2_6 : a2 6 = a1 6 := (h2.1 6 (by omega)).trans ((va_up_ne _ _ (by omega)).trans rfl)
  have a2_7 : a2 7 = q32 := (h2.1 7 (by omega)).trans (va_up_self _ _ _)
  have E2_0 := (h2.2.1 0 (by omega) (by omega)).trans ((va_up_ne _ _ (by omega)).trans (va_up_self _ _ _))
  have E2_1 := (h2.2.1 1 (by omega) (by omega)).trans ((va_up_ne _ _ (by omega)).trans ((va_up_ne _ _ (by omega)).trans E1_1))
  have E2_2 := (h2.2.1 2 (by omega) (by omega)).trans ((va_up_ne _ _ (by omega)).trans ((va_up_ne _ _ (by omega)).trans E1_2))
  have E2_3 := (h2.2.1 3 (by omega) (by omega)).trans ((va_up_ne _ _ (by omega)).trans ((va_up_ne _ _ (by omega)).trans E1_3))
  have E2_4 := (h2.2.1 4 (by omega) (by omega)).trans ((va_up_ne _ _ (by omega)).trans ((va_up_ne _ _ (by omega)).trans E1_4))
  have E2_5 := (h2.2.1 5 (by omega) (by omega)).trans ((va_up_ne _ _ (by omega)).trans ((va_up_ne _ _ (by omega)).trans E1_5))
  have E2_6 := (h2.2.1 6 (by omega) (by omega)).trans ((va_up_ne _ _ (by omega)).trans ((va_up_ne _ _ (by omega)).trans E1_6))
  have E2_7 := h2.2.2.1
  have E2_8 := h2.2.2.2.1
  have E2_9 := h2.2.2.2.2.1
  have E2_10 := h2.2.2.2.2.2
  refine cd_num (k' := 10) (ms' := 3097) (n' := 11) rfl rfl rfl ?_
  refine cd_putF hC (b := 0) (fs := [.ref q7, zz_v 0, .ref q15, zz_v 0, .ref q21, .null, .null, zz_v 0, .null, zz_v 0, zz_v 0]) w3 tyX3 tyX3_ok nmX3 hK.1 (by omega) a2_0 E2_0 rfl 5 (by decide) f24 rfl rfl hnm rfl rfl rfl rfl (Nat.le_of_ble_eq_true rfl) dX3_init_39 ?_
  refine cd_aload_n hC dX3_init_42 rfl (j := 0) rfl ?_
  refine cd_bipush hC dX3_init_43 rfl ?_
  refine cd_newq hC (G := G) rfl hN (C := RX0) (hts _ (by decide +kernel)) hK.2.1 hK.1 2 rfl (N := 24) rfl (Nat.le_of_ble_eq_true rfl) (by decide) (Nat.le_of_ble_eq_true rfl) dX3_init_45 (fun q45 => ?_)
  refine cd_num (k' := 11) (ms' := 3121) (n' := 12) rfl rfl rfl ?_
  refine cd_putF hC (b := 0) (fs := [.ref q7, zz_v 0, .ref q15, zz_v 0, .ref q21, .ref q32, .null, zz_v 0, .null, zz_v 0, zz_v 0]) w3 tyX3 tyX3_ok nmX3 hK.1 (by omega) ((va_up_ne _ _ (by omega)).trans a2_0) ((va_up_ne _ _ (by omega)).trans (va_up_self _ _ _)) rfl 6 (by decide) f29 rfl rfl hnm rfl rfl rfl rfl (Nat.le_of_ble_eq_true rfl) dX3_init_48 ?_
  refine cd_iconst hC dX3_init_51 ?_
  refine cd_istore_n hC dX3_init_52 rfl (by decide) (lv' := [(1, zz_v 0), (0, .ref (a 0))]) rfl ?_
  refine cd_gen (fun a3 E3 ha3 hE3 => ?_)
  have a3_0 : a3 0 = a (0) := by rw [ha3]; exact ((va_up_ne _ _ (by omega)).trans a2_0)
  have E3_0 := (congrFun hE3 0).trans (va_up_self _ _ _)
  have a3_1 : a3 1 = q7 := by rw [ha3]; exact ((va_up_ne _ _ (by omega)).trans a2_1)
  have E3_1 := (congrFun hE3 1).trans ((va_up_ne _ _ (by omega)).trans ((va_up_ne _ _ (by omega)).trans ((va_up_ne _ _ (by omega)).trans E2_1)))
  have a3_2 : a3 2 = q15 := by rw [ha3]; exact ((va_up_ne _ _ (by omega)).trans a2_2)
  have E3_2 := (congrFun hE3 2).trans ((va_up_ne _ _ (by omega)).trans ((va_up_ne _ _ (by omega)).trans ((va_up_ne _ _ (by omega)).trans E2_2)))
  have a3_3 : a3 3 = q21 := by rw [ha3]; exact ((va_up_ne _ _ (by omega)).trans a2_3)
  have E3_3 := (congrFun hE3 3).trans ((va_up_ne _ _ (by omega)).trans ((va_up_ne _ _ (by omega)).trans ((va_up_ne _ _ (by omega)).trans E2_3)))
  have a3_4 : a3 4 = a1 4 := by rw [ha3]; exact ((va_up_ne _ _ (by omega)).trans a2_4)
  have E3_4 := (congrFun hE3 4).trans ((va_up_ne _ _ (by omega)).trans ((va_up_ne _ _ (by omega)).trans ((va_up_ne _ _ (by omega)).trans E2_4)))
  have a3_5 : a3 5 = a1 5 := by rw [ha3]; exact ((va_up_ne _ _ (by omega)).trans a2_5)
  have E3_5 := (congrFun hE3 5).trans ((va_up_ne _ _ (by omega)).trans ((va_up_ne _ _ (by omega)).trans ((va_up_ne _ _ (by omega)).trans E2_5)))
  have a3_6 : a3 6 = a1 6 := by rw [ha3]; exact ((va_up_ne _ _ (by omega)).trans a2_6)
  have E3_6 := (congrFun hE3 6).trans ((va_up_ne _ _ (by omega)).trans ((va_up_ne _ _ (by omega)).trans ((va_up_ne _ _ (by omega)).trans E2_6)))
  have a3_7 : a3 7 = q32 := by rw [ha3]; exact ((va_up_ne _ _ (by omega)).trans a2_7)
  have E3_7 := (congrFun hE3 7).trans ((va_up_ne _ _ (by omega)).trans ((va_up_ne _ _ (by omega)).trans ((va_up_ne _ _ (by omega)).trans E2_7)))
  have a3_8 : a3 8 = a2 8 := by rw [ha3]; exact ((va_up_ne _ _ (by omega)).trans rfl)
  have E3_8 := (congrFun hE3 8).trans ((va_up_ne _ _ (by omega)).trans ((va_up_ne _ _ (by omega)).trans ((va_up_ne _ _ (by omega)).trans E2_8)))
  have a3_9 : a3 9 = a2 9 := by rw [ha3]; exact ((va_up_ne _ _ (by omega)).trans rfl)
  have E3_9 := (congrFun hE3 9).trans ((va_up_ne _ _ (by omega)).trans ((va_up_ne _ _ (by omega)).trans ((va_up_ne _ _ (by omega)).trans E2_9)))
  have a3_10 : a3 10 = a2 10 := by rw [ha3]; exact ((va_up_ne _ _ (by omega)).trans rfl)
  have E3_10 := (congrFun hE3 10).trans ((va_up_ne _ _ (by omega)).trans ((va_up_ne _ _ (by omega)).trans ((va_up_ne _ _ (by omega)).trans E2_10)))
  have a3_11 : a3 11 = q45 := by rw [ha3]; exact (va_up_self _ _ _)
  have E3_11 := (congrFun hE3 11).trans ((va_up_ne _ _ (by omega)).trans (va_up_self _ _ _))
  refine cd_lveq (lv' := [(1, zz_v ((0 : Nat) : Int)), (0, .ref (a 0))]) rfl ?_
  refine X3_loop1 hC hts hN hK (fs := [.ref q7, zz_v 0, .ref q15, zz_v 0, .ref q21, .ref q32, .ref q45, zz_v 0, .null, zz_v 0, zz_v 0]) (y := q45) a3_0 E3_0 rfl a3_11 (fun a4 E4 hI1 => ?_) 24 0 _ _ rfl ⟨fun j hj => rfl, fun j hj => rfl, ⟨_, E3_11, fun q hq => absurd hq (by omega)⟩, fun q hq => absurd hq (by omega)⟩
  obtain ⟨i1, i2, ⟨fr1, i3, i4⟩, i5⟩ := hI1
  have a4_0 : a4 0 = a (0) := (i1 0 (by omega)).trans a3_0
  have a4_1 : a4 1 = q7 := (i1 1 (by omega)).trans a3_1
  have a4_2 : a4 2 = q15 := (i1 2 (by omega)).trans a3_2
  have a4_3 : a4 3 = q21 := (i1 3 (by omega)).trans a3_3
  have a4_4 : a4 4 = a1 4 := (i1 4 (by omega)).trans a3_4
  have a4_5 : a4 5 = a1 5 := (i1 5 (by omega)).trans a3_5
  have a4_6 : a4 6 = a1 6 := (i1 6 (by omega)).trans a3_6
  have a4_7 : a4 7 = q32 := (i1 7 (by omega)).trans a3_7
  have a4_8 : a4 8 = a2 8 := (i1 8 (by omega)).trans a3_8
  have a4_9 : a4 9 = a2 9 := (i1 9 (by omega)).trans a3_9
  have a4_10 : a4 10 = a2 10 := (i1 10 (by omega)).trans a3_10
  have a4_11 : a4 11 = q45 := (i1 11 (by omega)).trans a3_11
  have E4_0 := (i2 0 (by omega)).trans E3_0
  have E4_1 := (i2 1 (by omega)).trans E3_1
  have E4_2 := (i2 2 (by omega)).trans E3_2
  have E4_3 := (i2 3 (by omega)).trans E3_3
  have E4_4 := (i2 4 (by omega)).trans E3_4
  have E4_5 := (i2 5 (by omega)).trans E3_5
  have E4_6 := (i2 6 (by omega)).trans E3_6
  have E4_7 := (i2 7 (by omega)).trans E3_7
  have E4_8 := (i2 8 (by omega)).trans E3_8
  have E4_9 := (i2 9 (by omega)).trans E3_9
  have E4_10 := (i2 10 (by omega)).trans E3_10
  refine cd_aload_n hC dX3_init_78 rfl (j := 1) rfl ?_
  refine cd_bipush hC dX3_init_79 rfl ?_
  refine cd_newq hC (G := G) rfl hN (C := RX2) (hts _ (by decide +kernel)) hK.2.2 hK.1 3 rfl (N := 16) rfl (Nat.le_of_ble_eq_true rfl) (by decide) (Nat.le_of_ble_eq_true rfl) dX3_init_81 (fun q81 => ?_)
  refine cd_num (k' := 60) (ms' := 3593) (n' := 61) rfl rfl rfl ?_
  refine cd_putF hC (b := 0) (fs := [.ref q7, zz_v 0, .ref q15, zz_v 0, .ref q21, .ref q32, .ref q45, zz_v 0, .null, zz_v 0, zz_v 0]) w3 tyX3 tyX3_ok nmX3 hK.1 (by omega) ((va_up_ne _ _ (by omega)).trans a4_0) ((va_up_ne _ _ (by omega)).trans E4_0) rfl 8 (by decide) f36 rfl rfl hnm rfl rfl rfl rfl (Nat.le_of_ble_eq_true rfl) dX3_init_84 ?_
  refine cd_iconst hC dX3_init_87 ?_
  refine cd_istore_n hC dX3_init_88 rfl (by decide) (lv' := [(1, zz_v 0), (0, .ref (a 0))]) rfl ?_
  refine cd_gen (fun a5 E5 ha5 hE5 => ?_)
  have a5_0 : a5 0 = a (0) := by rw [ha5]; exact ((va_up_ne _ _ (by omega)).trans a4_0)
  have a5_1 : a5 1 = q7 := by rw [ha5]; exact ((va_up_ne _ _ (by omega)).trans a4_1)
  have a5_2 : a5 2 = q15 := by rw [ha5]; exact ((va_up_ne _ _ (by omega)).trans a4_2)
  have a5_3 : a5 3 = q21 := by rw [ha5]; exact ((va_up_ne _ _ (by omega)).trans a4_3)
  have a5_4 : a5 4 = a1 4 := by rw [ha5]; exact ((va_up_ne _ _ (by omega)).trans a4_4)
  have a5_5 : a5 5 = a1 5 := by rw [ha5]; exact ((va_up_ne _ _ (by omega)).trans a4_5)
  have a5_6 : a5 6 = a1 6 := by rw [ha5]; exact ((va_up_ne _ _ (by omega)).trans a4_6)
  have a5_7 : a5 7 = q32 := by rw [ha5]; exact ((va_up_ne _ _ (by omega)).trans a4_7)
  have a5_8 : a5 8 = a2 8 := by rw [ha5]; exact ((va_up_ne _ _ (by omega)).trans a4_8)
  have a5_9 : a5 9 = a2 9 := by rw [ha5]; exact ((va_up_ne _ _ (by omega)).trans a4_9)
  have a5_10 : a5 10 = a2 10 := by rw [ha5]; exact ((va_up_ne _ _ (by omega)).trans a4_10)
  have a5_11 : a5 11 = q45 := by rw [ha5]; exact ((va_up_ne _ _ (by omega)).trans a4_11)
  have a5_60 : a5 60 = q81 := by rw [ha5]; exact (va_up_self _ _ _)
  have E5_0 := (congrFun hE5 0).trans (va_up_self _ _ _)
  have E5_1 := (congrFun hE5 1).trans ((va_up_ne _ _ (by omega)).trans ((va_up_ne _ _ (by omega)).trans E4_1))
  have E5_2 := (congrFun hE5 2).trans ((va_up_ne _ _ (by omega)).trans ((va_up_ne _ _ (by omega)).trans E4_2))
  have E5_3 := (congrFun hE5 3).trans ((va_up_ne _ _ (by omega)).trans ((va_up_ne _ _ (by omega)).trans E4_3))
  have E5_4 := (congrFun hE5 4).trans ((va_up_ne _ _ (by omega)).trans ((va_up_ne _ _ (by omega)).trans E4_4))
  have E5_5 := (congrFun hE5 5).trans ((va_up_ne _ _ (by omega)).trans ((va_up_ne _ _ (by omega)).trans E4_5))
  have E5_6 := (congrFun hE5 6).trans ((va_up_ne _ _ (by omega)).trans ((va_up_ne _ _ (by omega)).trans E4_6))
  have E5_7 := (congrFun hE5 7).trans ((va_up_ne _ _ (by omega)).trans ((va_up_ne _ _ (by omega)).trans E4_7))
  have E5_8 := (congrFun hE5 8).trans ((va_up_ne _ _ (by omega)).trans ((va_up_ne _ _ (by omega)).trans E4_8))
  have E5_9 := (congrFun hE5 9).trans ((va_up_ne _ _ (by omega)).trans ((va_up_ne _ _ (by omega)).trans E4_9))
  have E5_10 := (congrFun hE5 10).trans ((va_up_ne _ _ (by omega)).trans ((va_up_ne _ _ (by omega)).trans E4_10))
  have E5_11 := (congrFun hE5 11).trans ((va_up_ne _ _ (by omega)).trans ((va_up_ne _ _ (by omega)).trans i3))
  have E5_60 := (congrFun hE5 60).trans ((va_up_ne _ _ (by omega)).trans (va_up_self _ _ _))
  have a5l : ∀ j : Nat, j < 60 → a5 j = a4 j := fun j hj => by rw [ha5]; exact va_up_ne _ _ (by omega)
  have E5l : ∀ j : Nat, 0 < j → j < 60 → E5 j = E4 j := fun j h0 hj => by rw [hE5, va_up_ne _ _ (by omega), va_up_ne _ _ (by omega)]
  refine cd_lveq (lv' := [(1, zz_v ((0 : Nat) : Int)), (0, .ref (a 0))]) rfl ?_
  refine X3_loop2 hC hts hN hK (fs := [.ref q7, zz_v 0, .ref q15, zz_v 0, .ref q21, .ref q32, .ref q45, zz_v 0, .ref q81, zz_v 0, zz_v 0]) (y := q81) a5_0 E5_0 rfl a5_60 (fun a6 E6 hI2 => ?_) 16 0 _ _ rfl ⟨fun j hj => rfl, fun j hj => rfl, ⟨_, E5_60, fun q hq => absurd hq (by omega)⟩, fun q hq => absurd hq (by omega)⟩
  obtain ⟨o1, o2, ⟨fr2, o3, o4⟩, o5⟩ := hI2
  have a6_0 := (o1 0 (by omega)).trans a5_0
  have a6_1 := (o1 1 (by omega)).trans a5_1
  have a6_2 := (o1 2 (by omega)).trans a5_2
  have a6_3 := (o1 3 (by omega)).trans a5_3
  have a6_4 := (o1 4 (by omega)).trans a5_4
  have a6_5 := (o1 5 (by omega)).trans a5_5
  have a6_6 := (o1 6 (by omega)).trans a5_6
  have a6_7 := (o1 7 (by omega)).trans a5_7
  have a6_8 := (o1 8 (by omega)).trans a5_8
  have a6_9 := (o1 9 (by omega)).trans a5_9
  have a6_10 := (o1 10 (by omega)).trans a5_10
  have a6_11 := (o1 11 (by omega)).trans a5_11
  have a6_60 := (o1 60 (by omega)).trans a5_60
  have E6_0 := (o2 0 (by omega)).trans E5_0
  have E6_1 := (o2 1 (by omega)).trans E5_1
  have E6_2 := (o2 2 (by omega)).trans E5_2
  have E6_3 := (o2 3 (by omega)).trans E5_3
  have E6_4 := (o2 4 (by omega)).trans E5_4
  have E6_5 := (o2 5 (by omega)).trans E5_5
  have E6_6 := (o2 6 (by omega)).trans E5_6
  have E6_7 := (o2 7 (by omega)).trans E5_7
  have E6_8 := (o2 8 (by omega)).trans E5_8
  have E6_9 := (o2 9 (by omega)).trans E5_9
  have E6_10 := (o2 10 (by omega)).trans E5_10
  have E6_11 := (o2 11 (by omega)).trans E5_11
  exact cd_return (G := G) rfl hC hr hlk dX3_init_114 (Nat.le_of_ble_eq_true rfl) (Nat.le_of_ble_eq_true rfl) rfl ⟨a6_0, (by rw [E6_0, a6_1, a6_2, a6_3, a6_7, a6_11, a6_60]; rfl), E6_1, E6_2, (by rw [E6_3, a6_4, a6_5, a6_6]), E6_4, E6_5, E6_6, (by rw [E6_7, a6_8, a6_9, a6_10]), E6_8, E6_9, E6_10, ⟨fr1, E6_11, fun q hq => by rw [i4 q hq, o1 _ (by omega), a5l _ (by omega)]⟩, (fun q hq => by rw [o2 _ (by omega), o2 _ (by omega), E5l _ (by omega) (by omega), E5l _ (by omega) (by omega), o1 _ (by omega), a5l _ (by omega)]; exact i5 q hq), ⟨fr2, o3, o4⟩, o5⟩
