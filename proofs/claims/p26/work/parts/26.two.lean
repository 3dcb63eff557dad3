/-! two halls, and the law's own arrays -/
abbrev zy_U : Type := zz_S × zz_S × zz_S
def zy_n (k : Nat) : Nat := if k = 0 then 4 else 16
def zy_h1 (G : zz_G) (a : Nat → Nat) (T : zz_S) : va_W := (List.range 77).map fun k => (a k, zz_c G a (zz_k k) (T k))
def zy_h2 (G : zz_G) (a : Nat → Nat) (T : zz_S) : va_W := (List.range 77).map fun k => (a (77 + k), zz_c G (fun q => a (77 + q)) (zz_k k) (T k))
def zy_ar (G : zz_G) (a : Nat → Nat) (nA : List Nat) (V : zz_S) : va_W := (List.range nA.length).map fun k => (nA.getD k 0, (.inl (G.2.1 0, zy_n k, .inl (fun i => Int32.ofInt (V k i))) : va_E))
/-- what lies beside the first hall, and beside the second -/
def zy_t (G : zz_G) (a : Nat → Nat) (nA : List Nat) (T2 V : zz_S) : zz_G := (G.1, G.2.1, zy_h2 G a T2 ++ zy_ar G a nA V)
def zy_s (G : zz_G) (a : Nat → Nat) (nA : List Nat) (T V : zz_S) : zz_G := (G.1, G.2.1, zy_h1 G a T ++ zy_ar G a nA V)
def zy_W (G : zz_G) (a : Nat → Nat) (nA : List Nat) (U : zy_U) : va_W := zz_W (zy_t G a nA U.2.1 U.2.2) a U.1
def zy_Rg (U : zy_U) : Prop := zz_Rg U.1 ∧ zz_Rg U.2.1 ∧ zz_Rg U.2.2
theorem zy_l1 {G : zz_G} {a : Nat → Nat} {T : zz_S} : (zy_h1 G a T).length = 77 := by
  unfold zy_h1
  rw [List.length_map, List.length_range]
theorem zy_l2 {G : zz_G} {a : Nat → Nat} {T : zz_S} : (zy_h2 G a T).length = 77 := by
  unfold zy_h2
  rw [List.length_map, List.length_range]
theorem zy_W1 (G : zz_G) (a : Nat → Nat) (nA : List Nat) (U : zy_U) : zy_W G a nA U = zy_h1 G a U.1 ++ (zy_h2 G a U.2.1 ++ zy_ar G a nA U.2.2) := rfl
theorem zy_W2 (G : zz_G) (a : Nat → Nat) (nA : List Nat) (T T2 V : zz_S) : zz_W (zy_s G a nA T V) (fun q => a (77 + q)) T2 = zy_h2 G a T2 ++ (zy_h1 G a T ++ zy_ar G a nA V) := rfl
def zy_g (k : Nat) : Nat := if k < 77 then 77 + k else if k < 154 then k - 77 else k
theorem zy_swg {x y z : va_W} (hx : x.length = 77) (hy : y.length = 77) (k : Nat) (q : Nat × va_E) (h : (y ++ (x ++ z))[k]? = some q) : (x ++ (y ++ z))[zy_g k]? = some q := by
  unfold zy_g
  by_cases h1 : k < 77
  · rw [if_pos h1, List.getElem?_append_right (by omega), hx, Nat.add_sub_cancel_left, List.getElem?_append_left (by omega)]
    rw [List.getElem?_append_left (by omega)] at h
    exact h
  · rw [if_neg h1]
    rw [List.getElem?_append_right (by omega), hy] at h
    by_cases h2 : k < 154
    · rw [if_pos h2, List.getElem?_append_left (by omega)]
      rw [List.getElem?_append_left (by omega)] at h
      exact h
    · rw [if_neg h2, List.getElem?_append_right (by omega), List.getElem?_append_right (by omega), hx, hy]
      rw [List.getElem?_append_right (by omega), hx] at h
      exact h
theorem zy_gi (i j : Nat) (h : zy_g i = zy_g j) : i = j := by
  unfold zy_g at h
  repeat' split at h
  all_goals omega
theorem zy_swP {D : va_G} {cl : List vw_C} {x y z : va_W} {H : Heap} (hx : x.length = 77) (hy : y.length = 77) (h : va_P D cl (x ++ (y ++ z)) H) : va_P D cl (y ++ (x ++ z)) H := h.by zy_g (zy_swg hx hy)
theorem zy_swD {A : Nat → Prop} {x y z : va_W} (hx : x.length = 77) (hy : y.length = 77) (h : va_D A (x ++ (y ++ z))) : va_D A (y ++ (x ++ z)) := h.by zy_g (zy_swg hx hy) (fun i j _ _ e => zy_gi i j e)
def Ge_ (p : Program) (l : Launch) (e : Env) (R : Room) (s : State) (m : MethodId) (args : Array Value) (below : List Frame) (meth : Method) (c : Code) (Q : State → Prop) (N0 : Nat) (G : zz_G) (a : Nat → Nat) (nA : List Nat) (nL k : Nat) (U : zy_U) (pc : Nat) (lv : List (Nat × Value)) (st : List Value) : Prop :=
  zy_Rg U → ∀ (H : Heap) (locs : List Loc) (ls : Array Slot), va_P G.1 vwCl (zy_W G a nA U) H → va_D (zz_A N0) (zy_W G a nA U) → va_S (zz_A N0) s.heap H locs → lv_has ls nL lv → W p l e R s m args below meth c H locs k (6 * k) Q (F0 m pc ls st)
/-- what holds ahead of a call of the law's, and behind it -/
def zy_P (N0 : Nat) (G : zz_G) (Y : zz_Y) (a : Nat → Nat) (nA : List Nat) (U : zy_U) (u : State) : Prop := N0 ≤ u.heap.size ∧ va_P G.1 vwCl (zy_W G a nA U) u.heap ∧ va_K G.1 vwCl (zz_T G) u ∧ va_D (zz_A N0) (zy_W G a nA U) ∧ zy_Rg U ∧ zz_E N0 Y u
def zy_B (N0 : Nat) (G : zz_G) (a : Nat → Nat) (nA : List Nat) (U : zy_U) (t : State) : Prop := va_P G.1 vwCl (zy_W G a nA U) t.heap ∧ va_D (zz_A N0) (zy_W G a nA U) ∧ zy_Rg U
theorem zy_blind {N0 : Nat} {G : zz_G} {Y : zz_Y} {a : Nat → Nat} {nA : List Nat} {U : zy_U} {av : List Value} : FrameBlind (va_Pc av (zy_P N0 G Y a nA U)) := by
  intro v u g mk h
  obtain ⟨h0, h1, h2, h3, h4, h5, h6⟩ := h
  have hW : u.WarmedH (u.calling g mk v).vm := State.WarmedH.refl u
  exact ⟨h0, h1, h2, va_K.moved (u := u) (U := u.calling g mk v) (Vm.Alike.refl u.vm) h3, h4, h5, zz_E_warm (s := u) (H := u.heap) (locs := []) h6 va_S.rf rfl hW⟩
def zy_Q (N0 : Nat) (G : zz_G) (a : Nat → Nat) (nA : List Nat) (post : Option Value → zy_U → Prop) : Array Value → State → Outcome → State → Prop := fun _ st0 oc t => (∃ (v : Option Value) (U' : zy_U), oc = .returned v ∧ post v U' ∧ zy_B N0 G a nA U' t) ∧ va_F (zz_A N0) st0 t
def zy_X : String → State → State → Prop := fun _ _ _ => False
def Cy_ (l : Launch) (y : MethodName) (ws : List Cond) (rm : Room) (K : Nat) (av : List Value) (N0 : Nat) (G : zz_G) (Y : zz_Y) (a : Nat → Nat) (nA : List Nat) (U : zy_U) (post : Option Value → zy_U → Prop) : Prop :=
  vx_Met l y ws rm (va_Pc av (zy_P N0 G Y a nA U)) (zy_Q N0 G a nA post) zy_X K (6 * K) (zz_A N0)
theorem vx_mono {l : Launch} {y : MethodName} {ws : List Cond} {rm : Room} {Pc Pc' : Array Value → State → Prop} {Qc Qc' : Array Value → State → Outcome → State → Prop} {XC XC' : String → State → State → Prop} {mc ms : Nat} {free : Addr → Prop} (h : vx_Met l y ws rm Pc Qc XC mc ms free) (hp : ∀ a s, Pc' a s → Pc a s) (hq : ∀ a s o t, Qc a s o t → Qc' a s o t) (hx : ∀ E s t, XC E s t → XC' E s t) : vx_Met l y ws rm Pc' Qc' XC' mc ms free := by
  intro p e ha hc hk s m args below hf happ hP hK
  obtain ⟨n, o, h1, h2, h3, h4⟩ := h p e ha hc hk s m args below hf happ (hp _ _ hP) hK
  refine ⟨n, o, h1, h2, h3, ?_⟩
  rcases h4 with ⟨q1, q2⟩ | ⟨q, q1, E, ce, L, q2, q3⟩
  · exact Or.inl ⟨hq _ _ _ _ q1, q2⟩
  · exact Or.inr ⟨q, q1, E, ce, L, hx _ _ _ q2, q3⟩
theorem Cy_.mono {l : Launch} {y : MethodName} {ws : List Cond} {rm : Room} {K : Nat} {av : List Value} {N0 : Nat} {G : zz_G} {Y : zz_Y} {a : Nat → Nat} {nA : List Nat} {U : zy_U} {post post' : Option Value → zy_U → Prop} (h : Cy_ l y ws rm K av N0 G Y a nA U post) (hp : ∀ v U', post v U' → post' v U') : Cy_ l y ws rm K av N0 G Y a nA U post' :=
  vx_mono h (fun _ _ h => h) (fun _ _ _ _ h => by
    obtain ⟨⟨v, U', h1, h2, h3⟩, h4⟩ := h
    exact ⟨⟨v, U', h1, hp v U' h2, h3⟩, h4⟩) (fun _ _ _ h => h)
/-- a contract about a hall is one about the first hall -/
theorem Cy_.of1 {l : Launch} {y : MethodName} {ws : List Cond} {rm : Room} {K : Nat} {av : List Value} {N0 : Nat} {G : zz_G} {Y : zz_Y} {a : Nat → Nat} {nA : List Nat} {U : zy_U} {post : Option Value → zz_S → Prop} {px : String → zz_S → Prop} (hR : zy_Rg U) (h : Ct_ l y ws rm K av N0 (zy_t G a nA U.2.1 U.2.2) Y a U.1 post px) (hx : ∀ E T', ¬ px E T') : Cy_ l y ws rm K av N0 G Y a nA U (fun v U' => ∃ T', U' = (T', U.2) ∧ post v T') :=
  vx_mono h (fun _ _ h => ⟨h.1, h.2.1, h.2.2.1, h.2.2.2.1, h.2.2.2.2.1, h.2.2.2.2.2.1.1, h.2.2.2.2.2.2⟩) (fun _ _ _ _ h => by
    obtain ⟨⟨v, T', h1, h2, h3, h4, h5⟩, h6⟩ := h
    exact ⟨⟨v, (T', U.2), h1, ⟨T', rfl, h2⟩, h3, h4, h5, hR.2⟩, h6⟩) (fun _ _ _ h => by
    obtain ⟨⟨T', h1, -⟩, -⟩ := h
    exact hx _ _ h1)
/-- .. and about the second one -/
theorem Cy_.of2 {l : Launch} {y : MethodName} {ws : List Cond} {rm : Room} {K : Nat} {av : List Value} {N0 : Nat} {G : zz_G} {Y : zz_Y} {a : Nat → Nat} {nA : List Nat} {U : zy_U} {post : Option Value → zz_S → Prop} {px : String → zz_S → Prop} (hR : zy_Rg U) (h : Ct_ l y ws rm K av N0 (zy_s G a nA U.1 U.2.2) Y (fun q => a (77 + q)) U.2.1 post px) (hx : ∀ E T', ¬ px E T') : Cy_ l y ws rm K av N0 G Y a nA U (fun v U' => ∃ T', U' = (U.1, T', U.2.2) ∧ post v T') :=
  vx_mono h (fun _ _ h => ⟨h.1, h.2.1, by
    have h9 := h.2.2.1
    rw [zy_W1] at h9
    rw [zy_W2]
    exact zy_swP zy_l1 zy_l2 h9, h.2.2.2.1, by
    have h9 := h.2.2.2.2.1
    rw [zy_W1] at h9
    rw [zy_W2]
    exact zy_swD zy_l1 zy_l2 h9, h.2.2.2.2.2.1.2.1, h.2.2.2.2.2.2⟩) (fun _ _ _ _ h => by
    obtain ⟨⟨v, T', h1, h2, h3, h4, h5⟩, h6⟩ := h
    rw [zy_W2] at h3 h4
    refine ⟨⟨v, (U.1, T', U.2.2), h1, ⟨T', rfl, h2⟩, ?_, ?_, hR.1, h5, hR.2.2⟩, h6⟩
    · rw [zy_W1]
      exact zy_swP zy_l2 zy_l1 h3
    · rw [zy_W1]
      exact zy_swD zy_l2 zy_l1 h4) (fun _ _ _ h => by
    obtain ⟨⟨T', h1, -⟩, -⟩ := h
    exact hx _ _ h1)
section ZY
variable {p : Program} {l : Launch} {e : Env} {R : Room} {s : State} {m : MethodId} {args : Array Value} {below : List Frame} {meth : Method} {c : Code} {Q : State → Prop} {N0 : Nat} {G : zz_G} {a : Nat → Nat} {nL k : Nat} {nA : List Nat} {U : zy_U} {pc : Nat} {lv : List (Nat × Value)} {st : List Value} {cc : ByteArray} {own : String}

theorem ge_sub {lv' : List (Nat × Value)} (ks : List Nat) (h : lv_pick lv ks = lv') (kk : Ge_ p l e R s m args below meth c Q N0 G a nA nL (k) (U) (pc) (lv') (st)) : Ge_ p l e R s m args below meth c Q N0 G a nA nL (k) (U) (pc) (lv) (st) := fun hR H locs ls hP hD hS hl => kk hR H locs ls hP hD hS (lv_sub hl ks h)
theorem ge_top {x y : Int} (h : x = y) (kk : Ge_ p l e R s m args below meth c Q N0 G a nA nL (k) (U) (pc) (lv) (zz_v y :: st)) : Ge_ p l e R s m args below meth c Q N0 G a nA nL (k) (U) (pc) (lv) (zz_v x :: st) := h ▸ kk
theorem ge_wide {k' : Nat} (h : k ≤ k') (kk : Ge_ p l e R s m args below meth c Q N0 G a nA nL (k') (U) (pc) (lv) (st)) : Ge_ p l e R s m args below meth c Q N0 G a nA nL (k) (U) (pc) (lv) (st) := fun hR H locs ls hP hD hS hl => W.widen h (by omega) (kk hR H locs ls hP hD hS hl)
theorem ge_eq {U' : zy_U} (h : U' = U) (kk : Ge_ p l e R s m args below meth c Q N0 G a nA nL (k) (U') (pc) (lv) (st)) : Ge_ p l e R s m args below meth c Q N0 G a nA nL (k) (U) (pc) (lv) (st) := h ▸ kk
theorem ge_rg (kk : zy_Rg U → Ge_ p l e R s m args below meth c Q N0 G a nA nL (k) (U) (pc) (lv) (st)) : Ge_ p l e R s m args below meth c Q N0 G a nA nL (k) (U) (pc) (lv) (st) := fun hR => kk hR hR
theorem ge_iload_n (hC : zz_C p c cc nL s m own) {q : Fin 4} {i j : Nat} {z : Int} (hdg : decode cc pc = .ok (.iload_n q, 1)) (hi : (q : Nat) = i) (hj : lv[j]? = some (i, zz_v z)) (kk : Ge_ p l e R s m args below meth c Q N0 G a nA nL (k) (U) (pc + 1) (lv) (zz_v z :: st)) : Ge_ p l e R s m args below meth c Q N0 G a nA nL (k) (U) (pc) (lv) (st) := fun hR H locs ls hP hD hS hl => lv_iload_n hC.1 hC.2.1 hdg hi (lv_at hl j hj) (kk hR H locs ls hP hD hS hl)
theorem ge_iload (hC : zz_C p c cc nL s m own) {i j : Nat} {z : Int} (hdg : decode cc pc = .ok (.iload i, 2)) (hj : lv[j]? = some (i, zz_v z)) (kk : Ge_ p l e R s m args below meth c Q N0 G a nA nL (k) (U) (pc + 2) (lv) (zz_v z :: st)) : Ge_ p l e R s m args below meth c Q N0 G a nA nL (k) (U) (pc) (lv) (st) := fun hR H locs ls hP hD hS hl => lv_iload hC.1 hC.2.1 hdg (lv_at hl j hj) (kk hR H locs ls hP hD hS hl)
theorem ge_aload_n (hC : zz_C p c cc nL s m own) {q : Fin 4} {i j : Nat} {x : Nat} (hdg : decode cc pc = .ok (.aload_n q, 1)) (hi : (q : Nat) = i) (hj : lv[j]? = some (i, .ref x)) (kk : Ge_ p l e R s m args below meth c Q N0 G a nA nL (k) (U) (pc + 1) (lv) (.ref x :: st)) : Ge_ p l e R s m args below meth c Q N0 G a nA nL (k) (U) (pc) (lv) (st) := fun hR H locs ls hP hD hS hl => lv_aload_n hC.1 hC.2.1 hdg hi (lv_at hl j hj) (kk hR H locs ls hP hD hS hl)
theorem ge_aload (hC : zz_C p c cc nL s m own) {i j : Nat} {x : Nat} (hdg : decode cc pc = .ok (.aload i, 2)) (hj : lv[j]? = some (i, .ref x)) (kk : Ge_ p l e R s m args below meth c Q N0 G a nA nL (k) (U) (pc + 2) (lv) (.ref x :: st)) : Ge_ p l e R s m args below meth c Q N0 G a nA nL (k) (U) (pc) (lv) (st) := fun hR H locs ls hP hD hS hl => lv_aload hC.1 hC.2.1 hdg (lv_at hl j hj) (kk hR H locs ls hP hD hS hl)
theorem ge_istore_n (hC : zz_C p c cc nL s m own) {q : Fin 4} {i : Nat} {z : Int} {lv' : List (Nat × Value)} (hdg : decode cc pc = .ok (.istore_n q, 1)) (hi : (q : Nat) = i) (hn : i < nL) (hl' : (i, zz_v z) :: lv.filter (fun q => !(q.1 == i) && !(q.1 + 1 == i && q.2.category == 2)) = lv') (kk : Ge_ p l e R s m args below meth c Q N0 G a nA nL (k) (U) (pc + 1) (lv') (st)) : Ge_ p l e R s m args below meth c Q N0 G a nA nL (k) (U) (pc) (lv) (zz_v z :: st) := fun hR H locs ls hP hD hS hl => lv_istore_n hC.1 hC.2.1 hdg hi hl hn hl' (fun ls' hl2 => kk hR H locs ls' hP hD hS hl2)
theorem ge_istore (hC : zz_C p c cc nL s m own) {i : Nat} {z : Int} {lv' : List (Nat × Value)} (hdg : decode cc pc = .ok (.istore i, 2)) (hn : i < nL) (hl' : (i, zz_v z) :: lv.filter (fun q => !(q.1 == i) && !(q.1 + 1 == i && q.2.category == 2)) = lv') (kk : Ge_ p l e R s m args below meth c Q N0 G a nA nL (k) (U) (pc + 2) (lv') (st)) : Ge_ p l e R s m args below meth c Q N0 G a nA nL (k) (U) (pc) (lv) (zz_v z :: st) := fun hR H locs ls hP hD hS hl => lv_istore hC.1 hC.2.1 hdg hl hn hl' (fun ls' hl2 => kk hR H locs ls' hP hD hS hl2)
theorem ge_astore_n (hC : zz_C p c cc nL s m own) {q : Fin 4} {i : Nat} {x : Nat} {lv' : List (Nat × Value)} (hdg : decode cc pc = .ok (.astore_n q, 1)) (hi : (q : Nat) = i) (hn : i < nL) (hl' : (i, .ref x) :: lv.filter (fun q => !(q.1 == i) && !(q.1 + 1 == i && q.2.category == 2)) = lv') (kk : Ge_ p l e R s m args below meth c Q N0 G a nA nL (k) (U) (pc + 1) (lv') (st)) : Ge_ p l e R s m args below meth c Q N0 G a nA nL (k) (U) (pc) (lv) (.ref x :: st) := fun hR H locs ls hP hD hS hl => lv_astore_n hC.1 hC.2.1 hdg hi hl hn hl' (fun ls' hl2 => kk hR H locs ls' hP hD hS hl2)
theorem ge_astore (hC : zz_C p c cc nL s m own) {i : Nat} {x : Nat} {lv' : List (Nat × Value)} (hdg : decode cc pc = .ok (.astore i, 2)) (hn : i < nL) (hl' : (i, .ref x) :: lv.filter (fun q => !(q.1 == i) && !(q.1 + 1 == i && q.2.category == 2)) = lv') (kk : Ge_ p l e R s m args below meth c Q N0 G a nA nL (k) (U) (pc + 2) (lv') (st)) : Ge_ p l e R s m args below meth c Q N0 G a nA nL (k) (U) (pc) (lv) (.ref x :: st) := fun hR H locs ls hP hD hS hl => lv_astore hC.1 hC.2.1 hdg hl hn hl' (fun ls' hl2 => kk hR H locs ls' hP hD hS hl2)
theorem ge_iinc (hC : zz_C p c cc nL s m own) {i j : Nat} {n x y : Int} {lv' : List (Nat × Value)} (hdg : decode cc pc = .ok (.iinc i n, 3)) (hj : lv[j]? = some (i, zz_v x)) (hy : x + n = y) (hn : i < nL) (hl' : (i, zz_v y) :: lv.filter (fun q => !(q.1 == i) && !(q.1 + 1 == i && q.2.category == 2)) = lv') (kk : Ge_ p l e R s m args below meth c Q N0 G a nA nL (k) (U) (pc + 3) (lv') (st)) : Ge_ p l e R s m args below meth c Q N0 G a nA nL (k) (U) (pc) (lv) (st) := fun hR H locs ls hP hD hS hl => lv_iinc (v := Int32.ofInt y) hC.1 hC.2.1 hdg hl hj (by rw [← hy, Int32.ofInt_add]) hn hl' (fun ls' hl2 => kk hR H locs ls' hP hD hS hl2)
theorem ge_iconst (hC : zz_C p c cc nL s m own) {n : Int} (hdg : decode cc pc = .ok (.iconst n, 1)) (kk : Ge_ p l e R s m args below meth c Q N0 G a nA nL (k) (U) (pc + 1) (lv) (zz_v n :: st)) : Ge_ p l e R s m args below meth c Q N0 G a nA nL (k) (U) (pc) (lv) (st) := fun hR H locs ls hP hD hS hl => lv_iconst hC.1 hC.2.1 hdg rfl (kk hR H locs ls hP hD hS hl)
theorem ge_bipush (hC : zz_C p c cc nL s m own) {n : Int} (hdg : decode cc pc = .ok (.bipush n, 2)) (hv : (Int8.ofInt n).toInt32 = Int32.ofInt n) (kk : Ge_ p l e R s m args below meth c Q N0 G a nA nL (k) (U) (pc + 2) (lv) (zz_v n :: st)) : Ge_ p l e R s m args below meth c Q N0 G a nA nL (k) (U) (pc) (lv) (st) := fun hR H locs ls hP hD hS hl => lv_bipush hC.1 hC.2.1 hdg hv (kk hR H locs ls hP hD hS hl)
theorem ge_sipush (hC : zz_C p c cc nL s m own) {n : Int} (hdg : decode cc pc = .ok (.sipush n, 3)) (hv : (Int16.ofInt n).toInt32 = Int32.ofInt n) (kk : Ge_ p l e R s m args below meth c Q N0 G a nA nL (k) (U) (pc + 3) (lv) (zz_v n :: st)) : Ge_ p l e R s m args below meth c Q N0 G a nA nL (k) (U) (pc) (lv) (st) := fun hR H locs ls hP hD hS hl => lv_sipush hC.1 hC.2.1 hdg hv (kk hR H locs ls hP hD hS hl)
theorem ge_ldc (hC : zz_C p c cc nL s m own) {n : Int} {index : Nat} (hw : (Cond.constant own index (Int32.ofInt n)).before args s = true) (hdg : decode cc pc = .ok (.ldc index, 2)) (kk : Ge_ p l e R s m args below meth c Q N0 G a nA nL (k) (U) (pc + 2) (lv) (zz_v n :: st)) : Ge_ p l e R s m args below meth c Q N0 G a nA nL (k) (U) (pc) (lv) (st) := fun hR H locs ls hP hD hS hl => lv_ldc hC.1 hC.2.1 hC.2.2.2 hw hdg (kk hR H locs ls hP hD hS hl)
theorem ge_ldcw (hC : zz_C p c cc nL s m own) {n : Int} {index : Nat} (hw : (Cond.constant own index (Int32.ofInt n)).before args s = true) (hdg : decode cc pc = .ok (.ldc_w index, 3)) (kk : Ge_ p l e R s m args below meth c Q N0 G a nA nL (k) (U) (pc + 3) (lv) (zz_v n :: st)) : Ge_ p l e R s m args below meth c Q N0 G a nA nL (k) (U) (pc) (lv) (st) := fun hR H locs ls hP hD hS hl => lv_ldcw hC.1 hC.2.1 hC.2.2.2 hw hdg (kk hR H locs ls hP hD hS hl)
theorem ge_dup (hC : zz_C p c cc nL s m own) {v : Value} (hdg : decode cc pc = .ok (.dup, 1)) (hv : v.category = 1) (kk : Ge_ p l e R s m args below meth c Q N0 G a nA nL (k) (U) (pc + 1) (lv) (v :: v :: st)) : Ge_ p l e R s m args below meth c Q N0 G a nA nL (k) (U) (pc) (lv) (v :: st) := fun hR H locs ls hP hD hS hl => lv_dup hC.1 hC.2.1 hdg hv (kk hR H locs ls hP hD hS hl)
theorem ge_dup2 (hC : zz_C p c cc nL s m own) {v u : Value} (hdg : decode cc pc = .ok (.dup2, 1)) (hv : v.category = 1) (hu : u.category = 1) (kk : Ge_ p l e R s m args below meth c Q N0 G a nA nL (k) (U) (pc + 1) (lv) (v :: u :: v :: u :: st)) : Ge_ p l e R s m args below meth c Q N0 G a nA nL (k) (U) (pc) (lv) (v :: u :: st) := fun hR H locs ls hP hD hS hl => lv_dup2_11 hC.1 hC.2.1 hdg hv hu (kk hR H locs ls hP hD hS hl)
theorem ge_pop (hC : zz_C p c cc nL s m own) {v : Value} (hdg : decode cc pc = .ok (.pop, 1)) (hv : v.category = 1) (kk : Ge_ p l e R s m args below meth c Q N0 G a nA nL (k) (U) (pc + 1) (lv) (st)) : Ge_ p l e R s m args below meth c Q N0 G a nA nL (k) (U) (pc) (lv) (v :: st) := fun hR H locs ls hP hD hS hl => lv_pop hC.1 hC.2.1 hdg hv (kk hR H locs ls hP hD hS hl)
theorem ge_goto (hC : zz_C p c cc nL s m own) {off : Int} {tgt : Nat} (hdg : decode cc pc = .ok (.goto off, 3)) (ht : (pc : Int) + off = (tgt : Int)) (kk : Ge_ p l e R s m args below meth c Q N0 G a nA nL (k) (U) (tgt) (lv) (st)) : Ge_ p l e R s m args below meth c Q N0 G a nA nL (k) (U) (pc) (lv) (st) := fun hR H locs ls hP hD hS hl => lv_goto hC.1 hC.2.1 hdg ht (kk hR H locs ls hP hD hS hl)
theorem ge_iadd (hC : zz_C p c cc nL s m own) {x y : Int} (hdg : decode cc pc = .ok (.iadd, 1)) (kk : Ge_ p l e R s m args below meth c Q N0 G a nA nL (k) (U) (pc + 1) (lv) (zz_v (x + y) :: st)) : Ge_ p l e R s m args below meth c Q N0 G a nA nL (k) (U) (pc) (lv) (zz_v y :: zz_v x :: st) := fun hR H locs ls hP hD hS hl => lv_iadd hC.1 hC.2.1 hdg (by rw [← Int32.ofInt_add]; exact kk hR H locs ls hP hD hS hl)
theorem ge_isub (hC : zz_C p c cc nL s m own) {x y : Int} (hdg : decode cc pc = .ok (.isub, 1)) (kk : Ge_ p l e R s m args below meth c Q N0 G a nA nL (k) (U) (pc + 1) (lv) (zz_v (x - y) :: st)) : Ge_ p l e R s m args below meth c Q N0 G a nA nL (k) (U) (pc) (lv) (zz_v y :: zz_v x :: st) := fun hR H locs ls hP hD hS hl => lv_isub hC.1 hC.2.1 hdg (by rw [← Int32.ofInt_sub]; exact kk hR H locs ls hP hD hS hl)
theorem ge_imul (hC : zz_C p c cc nL s m own) {x y : Int} (hdg : decode cc pc = .ok (.imul, 1)) (kk : Ge_ p l e R s m args below meth c Q N0 G a nA nL (k) (U) (pc + 1) (lv) (zz_v (x * y) :: st)) : Ge_ p l e R s m args below meth c Q N0 G a nA nL (k) (U) (pc) (lv) (zz_v y :: zz_v x :: st) := fun hR H locs ls hP hD hS hl => lv_imul hC.1 hC.2.1 hdg (by rw [← Int32.ofInt_mul]; exact kk hR H locs ls hP hD hS hl)
theorem ge_idiv (hC : zz_C p c cc nL s m own) {x y : Int} (hdg : decode cc pc = .ok (.idiv, 1)) (hx : 0 ≤ x ∧ x < 2147483648) (hy : 0 < y ∧ y < 2147483648) (kk : Ge_ p l e R s m args below meth c Q N0 G a nA nL (k) (U) (pc + 1) (lv) (zz_v (x / y) :: st)) : Ge_ p l e R s m args below meth c Q N0 G a nA nL (k) (U) (pc) (lv) (zz_v y :: zz_v x :: st) := fun hR H locs ls hP hD hS hl => lv_idiv hC.1 hC.2.1 hdg (fun q => by have q2 := (zz_eq0 (show zz_R y from ⟨by omega, by omega⟩)).mp q; omega) (by
  have hX : zz_R x := ⟨by omega, by omega⟩
  have hY : zz_R y := ⟨by omega, by omega⟩
  have h9 : Int32.ofInt x / Int32.ofInt y = Int32.ofInt (x / y) := by
    rw [← Int32.toInt_inj, Int32.toInt_div_of_ne_right _ _ (fun q => by have q2 := congrArg Int32.toInt q; rw [zz_ti hY, show (-1 : Int32).toInt = -1 from rfl] at q2; omega), zz_ti hX, zz_ti hY, Int.tdiv_eq_ediv_of_nonneg hx.1, zz_ti]
    have d1 : 0 ≤ x / y := Int.ediv_nonneg hx.1 (by omega)
    have d2 : x / y ≤ x := Int.ediv_le_self _ hx.1
    exact ⟨by omega, by omega⟩
  rw [h9]
  exact kk hR H locs ls hP hD hS hl)
theorem ge_icmp_eq (hC : zz_C p c cc nL s m own) {x y off : Int} {tgt : Nat} (hdg : decode cc pc = .ok (.if_icmp .eq off, 3)) (ht : (pc : Int) + off = (tgt : Int)) (hx : zz_R x) (hy : zz_R y) (kt : x = y → Ge_ p l e R s m args below meth c Q N0 G a nA nL (k) (U) (tgt) (lv) (st)) (kf : ¬ x = y → Ge_ p l e R s m args below meth c Q N0 G a nA nL (k) (U) (pc + 3) (lv) (st)) : Ge_ p l e R s m args below meth c Q N0 G a nA nL (k) (U) (pc) (lv) (zz_v y :: zz_v x :: st) := fun hR H locs ls hP hD hS hl => lv_icmp_eq hC.1 hC.2.1 hdg ht (fun q => kt ((zz_eq hx hy).mp q) hR H locs ls hP hD hS hl) (fun q => kf (fun z => q ((zz_eq hx hy).mpr z)) hR H locs ls hP hD hS hl)
theorem ge_icmp_ne (hC : zz_C p c cc nL s m own) {x y off : Int} {tgt : Nat} (hdg : decode cc pc = .ok (.if_icmp .ne off, 3)) (ht : (pc : Int) + off = (tgt : Int)) (hx : zz_R x) (hy : zz_R y) (kt : ¬ x = y → Ge_ p l e R s m args below meth c Q N0 G a nA nL (k) (U) (tgt) (lv) (st)) (kf : x = y → Ge_ p l e R s m args below meth c Q N0 G a nA nL (k) (U) (pc + 3) (lv) (st)) : Ge_ p l e R s m args below meth c Q N0 G a nA nL (k) (U) (pc) (lv) (zz_v y :: zz_v x :: st) := fun hR H locs ls hP hD hS hl => lv_icmp_ne hC.1 hC.2.1 hdg ht (fun q => kt (fun z => q ((zz_eq hx hy).mpr z)) hR H locs ls hP hD hS hl) (fun q => kf ((zz_eq hx hy).mp q) hR H locs ls hP hD hS hl)
theorem ge_icmp_lt (hC : zz_C p c cc nL s m own) {x y off : Int} {tgt : Nat} (hdg : decode cc pc = .ok (.if_icmp .lt off, 3)) (ht : (pc : Int) + off = (tgt : Int)) (hx : zz_R x) (hy : zz_R y) (kt : x < y → Ge_ p l e R s m args below meth c Q N0 G a nA nL (k) (U) (tgt) (lv) (st)) (kf : ¬ x < y → Ge_ p l e R s m args below meth c Q N0 G a nA nL (k) (U) (pc + 3) (lv) (st)) : Ge_ p l e R s m args below meth c Q N0 G a nA nL (k) (U) (pc) (lv) (zz_v y :: zz_v x :: st) := fun hR H locs ls hP hD hS hl => lv_icmp_lt hC.1 hC.2.1 hdg ht (fun q => kt ((zz_lt hx hy).mp q) hR H locs ls hP hD hS hl) (fun q => kf (fun z => q ((zz_lt hx hy).mpr z)) hR H locs ls hP hD hS hl)
theorem ge_icmp_le (hC : zz_C p c cc nL s m own) {x y off : Int} {tgt : Nat} (hdg : decode cc pc = .ok (.if_icmp .le off, 3)) (ht : (pc : Int) + off = (tgt : Int)) (hx : zz_R x) (hy : zz_R y) (kt : x ≤ y → Ge_ p l e R s m args below meth c Q N0 G a nA nL (k) (U) (tgt) (lv) (st)) (kf : ¬ x ≤ y → Ge_ p l e R s m args below meth c Q N0 G a nA nL (k) (U) (pc + 3) (lv) (st)) : Ge_ p l e R s m args below meth c Q N0 G a nA nL (k) (U) (pc) (lv) (zz_v y :: zz_v x :: st) := fun hR H locs ls hP hD hS hl => lv_icmp_le hC.1 hC.2.1 hdg ht (fun q => kt ((zz_le hx hy).mp q) hR H locs ls hP hD hS hl) (fun q => kf (fun z => q ((zz_le hx hy).mpr z)) hR H locs ls hP hD hS hl)
theorem ge_icmp_gt (hC : zz_C p c cc nL s m own) {x y off : Int} {tgt : Nat} (hdg : decode cc pc = .ok (.if_icmp .gt off, 3)) (ht : (pc : Int) + off = (tgt : Int)) (hx : zz_R x) (hy : zz_R y) (kt : y < x → Ge_ p l e R s m args below meth c Q N0 G a nA nL (k) (U) (tgt) (lv) (st)) (kf : ¬ y < x → Ge_ p l e R s m args below meth c Q N0 G a nA nL (k) (U) (pc + 3) (lv) (st)) : Ge_ p l e R s m args below meth c Q N0 G a nA nL (k) (U) (pc) (lv) (zz_v y :: zz_v x :: st) := fun hR H locs ls hP hD hS hl => lv_icmp_gt hC.1 hC.2.1 hdg ht (fun q => kt ((zz_lt hy hx).mp q) hR H locs ls hP hD hS hl) (fun q => kf (fun z => q ((zz_lt hy hx).mpr z)) hR H locs ls hP hD hS hl)
theorem ge_icmp_ge (hC : zz_C p c cc nL s m own) {x y off : Int} {tgt : Nat} (hdg : decode cc pc = .ok (.if_icmp .ge off, 3)) (ht : (pc : Int) + off = (tgt : Int)) (hx : zz_R x) (hy : zz_R y) (kt : y ≤ x → Ge_ p l e R s m args below meth c Q N0 G a nA nL (k) (U) (tgt) (lv) (st)) (kf : ¬ y ≤ x → Ge_ p l e R s m args below meth c Q N0 G a nA nL (k) (U) (pc + 3) (lv) (st)) : Ge_ p l e R s m args below meth c Q N0 G a nA nL (k) (U) (pc) (lv) (zz_v y :: zz_v x :: st) := fun hR H locs ls hP hD hS hl => lv_icmp_ge hC.1 hC.2.1 hdg ht (fun q => kt ((zz_le hy hx).mp q) hR H locs ls hP hD hS hl) (fun q => kf (fun z => q ((zz_le hy hx).mpr z)) hR H locs ls hP hD hS hl)
theorem ge_if_eq (hC : zz_C p c cc nL s m own) {x off : Int} {tgt : Nat} (hdg : decode cc pc = .ok (.ifCond .eq off, 3)) (ht : (pc : Int) + off = (tgt : Int)) (hx : zz_R x) (kt : x = 0 → Ge_ p l e R s m args below meth c Q N0 G a nA nL (k) (U) (tgt) (lv) (st)) (kf : ¬ x = 0 → Ge_ p l e R s m args below meth c Q N0 G a nA nL (k) (U) (pc + 3) (lv) (st)) : Ge_ p l e R s m args below meth c Q N0 G a nA nL (k) (U) (pc) (lv) (zz_v x :: st) := fun hR H locs ls hP hD hS hl => lv_if_eq hC.1 hC.2.1 hdg ht (fun q => kt ((zz_eq0 hx).mp q) hR H locs ls hP hD hS hl) (fun q => kf (fun z => q ((zz_eq0 hx).mpr z)) hR H locs ls hP hD hS hl)
theorem ge_if_ne (hC : zz_C p c cc nL s m own) {x off : Int} {tgt : Nat} (hdg : decode cc pc = .ok (.ifCond .ne off, 3)) (ht : (pc : Int) + off = (tgt : Int)) (hx : zz_R x) (kt : ¬ x = 0 → Ge_ p l e R s m args below meth c Q N0 G a nA nL (k) (U) (tgt) (lv) (st)) (kf : x = 0 → Ge_ p l e R s m args below meth c Q N0 G a nA nL (k) (U) (pc + 3) (lv) (st)) : Ge_ p l e R s m args below meth c Q N0 G a nA nL (k) (U) (pc) (lv) (zz_v x :: st) := fun hR H locs ls hP hD hS hl => lv_if_ne hC.1 hC.2.1 hdg ht (fun q => kt (fun z => q ((zz_eq0 hx).mpr z)) hR H locs ls hP hD hS hl) (fun q => kf ((zz_eq0 hx).mp q) hR H locs ls hP hD hS hl)
theorem ge_if_lt (hC : zz_C p c cc nL s m own) {x off : Int} {tgt : Nat} (hdg : decode cc pc = .ok (.ifCond .lt off, 3)) (ht : (pc : Int) + off = (tgt : Int)) (hx : zz_R x) (kt : x < 0 → Ge_ p l e R s m args below meth c Q N0 G a nA nL (k) (U) (tgt) (lv) (st)) (kf : ¬ x < 0 → Ge_ p l e R s m args below meth c Q N0 G a nA nL (k) (U) (pc + 3) (lv) (st)) : Ge_ p l e R s m args below meth c Q N0 G a nA nL (k) (U) (pc) (lv) (zz_v x :: st) := fun hR H locs ls hP hD hS hl => lv_if_lt hC.1 hC.2.1 hdg ht (fun q => kt ((zz_lt0 hx).mp q) hR H locs ls hP hD hS hl) (fun q => kf (fun z => q ((zz_lt0 hx).mpr z)) hR H locs ls hP hD hS hl)
theorem ge_if_le (hC : zz_C p c cc nL s m own) {x off : Int} {tgt : Nat} (hdg : decode cc pc = .ok (.ifCond .le off, 3)) (ht : (pc : Int) + off = (tgt : Int)) (hx : zz_R x) (kt : x ≤ 0 → Ge_ p l e R s m args below meth c Q N0 G a nA nL (k) (U) (tgt) (lv) (st)) (kf : ¬ x ≤ 0 → Ge_ p l e R s m args below meth c Q N0 G a nA nL (k) (U) (pc + 3) (lv) (st)) : Ge_ p l e R s m args below meth c Q N0 G a nA nL (k) (U) (pc) (lv) (zz_v x :: st) := fun hR H locs ls hP hD hS hl => lv_if_le hC.1 hC.2.1 hdg ht (fun q => kt ((zz_le0 hx).mp q) hR H locs ls hP hD hS hl) (fun q => kf (fun z => q ((zz_le0 hx).mpr z)) hR H locs ls hP hD hS hl)
theorem ge_if_gt (hC : zz_C p c cc nL s m own) {x off : Int} {tgt : Nat} (hdg : decode cc pc = .ok (.ifCond .gt off, 3)) (ht : (pc : Int) + off = (tgt : Int)) (hx : zz_R x) (kt : 0 < x → Ge_ p l e R s m args below meth c Q N0 G a nA nL (k) (U) (tgt) (lv) (st)) (kf : ¬ 0 < x → Ge_ p l e R s m args below meth c Q N0 G a nA nL (k) (U) (pc + 3) (lv) (st)) : Ge_ p l e R s m args below meth c Q N0 G a nA nL (k) (U) (pc) (lv) (zz_v x :: st) := fun hR H locs ls hP hD hS hl => lv_if_gt hC.1 hC.2.1 hdg ht (fun q => kt ((zz_gt0 hx).mp q) hR H locs ls hP hD hS hl) (fun q => kf (fun z => q ((zz_gt0 hx).mpr z)) hR H locs ls hP hD hS hl)
theorem ge_if_ge (hC : zz_C p c cc nL s m own) {x off : Int} {tgt : Nat} (hdg : decode cc pc = .ok (.ifCond .ge off, 3)) (ht : (pc : Int) + off = (tgt : Int)) (hx : zz_R x) (kt : 0 ≤ x → Ge_ p l e R s m args below meth c Q N0 G a nA nL (k) (U) (tgt) (lv) (st)) (kf : ¬ 0 ≤ x → Ge_ p l e R s m args below meth c Q N0 G a nA nL (k) (U) (pc + 3) (lv) (st)) : Ge_ p l e R s m args below meth c Q N0 G a nA nL (k) (U) (pc) (lv) (zz_v x :: st) := fun hR H locs ls hP hD hS hl => lv_if_ge hC.1 hC.2.1 hdg ht (fun q => kt ((zz_ge0 hx).mp q) hR H locs ls hP hD hS hl) (fun q => kf (fun z => q ((zz_ge0 hx).mpr z)) hR H locs ls hP hD hS hl)
theorem ge_lveq {lv' : List (Nat × Value)} (h : lv = lv') (kk : Ge_ p l e R s m args below meth c Q N0 G a nA nL (k) (U) (pc) (lv') (st)) : Ge_ p l e R s m args below meth c Q N0 G a nA nL (k) (U) (pc) (lv) (st) := h ▸ kk
theorem ge_irem (hC : zz_C p c cc nL s m own) {x y : Int} (hdg : decode cc pc = .ok (.irem, 1)) (hx : 0 ≤ x ∧ x < 2147483648) (hy : 0 < y ∧ y < 2147483648) (kk : Ge_ p l e R s m args below meth c Q N0 G a nA nL (k) (U) (pc + 1) (lv) (zz_v (x % y) :: st)) : Ge_ p l e R s m args below meth c Q N0 G a nA nL (k) (U) (pc) (lv) (zz_v y :: zz_v x :: st) := fun hR H locs ls hP hD hS hl => lv_irem hC.1 hC.2.1 hdg (fun q => by have q2 := (zz_eq0 (show zz_R y from ⟨by omega, by omega⟩)).mp q; omega) (by
  rw [zz_rem32 hx hy]
  exact kk hR H locs ls hP hD hS hl)
theorem ge_lcmpS (hC : zz_C p c cc nL s m own) {x : Int} (hdg : decode cc pc = .ok (.lcmp, 1)) (kk : Ge_ p l e R s m args below meth c Q N0 G a nA nL (k) (U) (pc + 1) (lv) (zz_v 0 :: st)) : Ge_ p l e R s m args below meth c Q N0 G a nA nL (k) (U) (pc) (lv) (zz_l x :: zz_l x :: st) := fun hR H locs ls hP hD hS hl => W.lcmp hC.1 hC.2.1 hdg (by
  rw [zz_cmpS]
  exact kk hR H locs ls hP hD hS hl)
theorem ge_sup {k' : Nat} (h : k = k') (kk : Ge_ p l e R s m args below meth c Q N0 G a nA nL (k') (U) (pc) (lv) (st)) : Ge_ p l e R s m args below meth c Q N0 G a nA nL (k) (U) (pc) (lv) (st) := by
  subst h; exact kk
theorem ge_anyI {x : Int} (kk : ∀ z : Int, zz_R z → Ge_ p l e R s m args below meth c Q N0 G a nA nL (k) (U) (pc) (lv) (zz_v z :: st)) : Ge_ p l e R s m args below meth c Q N0 G a nA nL (k) (U) (pc) (lv) (zz_v x :: st) := by
  have h9 := kk (Int32.ofInt x).toInt (zz_rng _)
  rw [zz_v, zz_asI] at h9
  exact h9
theorem ge_loopA {σ : Type} (μ : σ → Nat) (I : σ → Prop) (kf : σ → Nat) (Uf : σ → zy_U) (lf : σ → List (Nat × Value)) (x0 : σ) (h0 : I x0) (hk : k = kf x0) (hS : U = Uf x0) (hl : lv = lf x0) (step : ∀ x : σ, I x → (∀ y : σ, I y → μ y < μ x → Ge_ p l e R s m args below meth c Q N0 G a nA nL (kf y) (Uf y) (pc) (lf y) (st)) → Ge_ p l e R s m args below meth c Q N0 G a nA nL (kf x) (Uf x) (pc) (lf x) (st)) : Ge_ p l e R s m args below meth c Q N0 G a nA nL (k) (U) (pc) (lv) (st) := by
  subst hk; subst hS; subst hl
  have key : ∀ (n : Nat) (x : σ), μ x < n → I x → Ge_ p l e R s m args below meth c Q N0 G a nA nL (kf x) (Uf x) (pc) (lf x) (st) := by
    intro n
    induction n with
    | zero => intro x h; omega
    | succ n ih => intro x h hI; exact step x hI (fun y hy hm => ih y (by omega) hy)
  exact key (μ x0 + 1) x0 (by omega) h0
theorem zy_same {U : State} {x y : ClassId} {ty : FieldType} (h1 : va_RA U x ty) (h2 : va_RA U y ty) : y = x := by
  cases ty with
  | object C =>
    obtain ⟨-, -, -, -, -, e1⟩ := h1
    obtain ⟨-, -, -, -, -, e2⟩ := h2
    exact Option.some.inj (e2.symm.trans e1)
  | _ =>
    have e1 : U.vm.findClass _ = some x := h1
    have e2 : U.vm.findClass _ = some y := h2
    exact Option.some.inj (e2.symm.trans e1)
theorem zy_gd {nA ys : List Nat} {j : Nat} (h : j < nA.length) : (nA ++ ys).getD j 0 = nA.getD j 0 := by
  rw [List.getD_eq_getElem?_getD, List.getD_eq_getElem?_getD, List.getElem?_append_left h]
theorem zy_ar_app (G : zz_G) (nA ys : List Nat) (V : zz_S) : ∃ rest : va_W, zy_ar G a (nA ++ ys) V = zy_ar G a nA V ++ rest := by
  refine ⟨(List.range ys.length).map fun k => ((nA ++ ys).getD (nA.length + k) 0, (.inl (G.2.1 0, zy_n (nA.length + k), .inl (fun i => Int32.ofInt (V (nA.length + k) i))) : va_E)), ?_⟩
  unfold zy_ar
  rw [List.length_append, List.range_add, List.map_append, List.map_map]
  congr 1
  exact List.map_congr_left (fun j hj => by rw [zy_gd (List.mem_range.mp hj)])
theorem zy_push {G : zz_G} {U : zy_U} {q : Nat} (h : 0 < nA.length) : zy_W G a nA U ++ [(q, .inl (G.2.1 0, 16, .inl (fun _ => Int32.ofInt 0)))] = zy_W G a (nA ++ [q]) (U.1, U.2.1, va_up U.2.2 nA.length (fun _ => 0)) := by
  rw [zy_W1, zy_W1, List.append_assoc, List.append_assoc]
  congr 2
  unfold zy_ar
  rw [List.length_append, List.length_singleton, List.range_succ, List.map_append, List.map_singleton]
  dsimp only
  rw [va_up_self]
  have hn : zy_n nA.length = 16 := by unfold zy_n; rw [if_neg (by omega)]
  have hq : (nA ++ [q]).getD nA.length 0 = q := by simp
  rw [hn, hq]
  congr 1
  exact List.map_congr_left (fun j hj => by rw [zy_gd (List.mem_range.mp hj), va_up_ne _ _ (Nat.ne_of_lt (List.mem_range.mp hj))])

theorem ge_forget {ys : List Nat} (kk : Ge_ p l e R s m args below meth c Q N0 G a nA nL (k) (U) (pc) (lv) (st)) : Ge_ p l e R s m args below meth c Q N0 G a (nA ++ ys) nL (k) (U) (pc) (lv) (st) := fun hR H locs ls hP hD hS hl => by
  obtain ⟨rest, hr⟩ := zy_ar_app (a := a) G nA ys U.2.2
  have e : zy_W G a (nA ++ ys) U = zy_W G a nA U ++ rest := by
    rw [zy_W1, zy_W1, hr, List.append_assoc, List.append_assoc]
  rw [e] at hP hD
  have hg : ∀ (k : Nat) (q : Nat × va_E), (zy_W G a nA U)[k]? = some q → (zy_W G a nA U ++ rest)[k]? = some q := fun k q h => by
    rw [List.getElem?_append_left (List.getElem?_eq_some_iff.mp h).1]
    exact h
  exact kk hR H locs ls (hP.by (fun k => k) hg) (hD.by (fun k => k) hg (fun i j _ _ h => h)) hS hl
theorem ge_newa (hC : zz_C p c cc nL s m own) (hN : N0 ≤ s.heap.size) (harr : (Cond.arrayClass .int).before args s = true) (hK : va_K G.1 vwCl (zz_T G) s) (hpos : 0 < nA.length) (hcells : k + 3 ≤ R.cells ∧ 6 * (k + 3) ≤ R.slots) (hdg : decode cc pc = .ok (.newarray .int, 2))
    (kk : ∀ q : Nat, Ge_ p l e R s m args below meth c Q N0 G a (nA ++ [q]) nL (k + 3) (U.1, U.2.1, va_up U.2.2 nA.length (fun _ => 0)) (pc + 2) (lv) (.ref q :: st)) : Ge_ p l e R s m args below meth c Q N0 G a nA nL (k) (U) (pc) (lv) (zz_v 16 :: st) := fun hR H locs ls hP hD hS hl =>
  va_newa hC.1 hC.2.1 (atype := .int) harr rfl hK hP hD hS (fun q h => Nat.le_trans hN h) (N' := 16) (a0 := (16, .inl (fun _ => Int32.ofInt 0))) (fun _ => rfl) (by decide) (by decide) (Nat.le_of_ble_eq_true rfl) (by omega) (by omega) hdg (fun q cA H1 hK1 hP1 hD1 hS1 => by
    have e1 : cA = G.2.1 0 := zy_same (hK.2 0 (G.2.1 0, .int) rfl).2 (hK1.2 (zz_T G).length (cA, .int) (by rw [List.getElem?_append_right (Nat.le_refl _), Nat.sub_self]; rfl)).2
    rw [e1, zy_push hpos] at hP1 hD1
    refine W.widen (show k + 1 ≤ k + 3 by omega) (show 6 * k + 16 ≤ 6 * (k + 3) by omega) (kk q ⟨hR.1, hR.2.1, fun i j => ?_⟩ H1 locs ls hP1 hD1 hS1 hl)
    by_cases e : i = nA.length
    · show zz_R (va_up U.2.2 nA.length (fun _ => 0) i j)
      rw [e, va_up_self]
      exact zz_r0
    · show zz_R (va_up U.2.2 nA.length (fun _ => 0) i j)
      rw [va_up_ne _ _ e]
      exact hR.2.2 i j)
theorem ge_ishrX (hC : zz_C p c cc nL s m own) {x y : Int} (hdg : decode cc pc = .ok (.ishr, 1)) (kk : ∀ z : Int, zz_R z → Ge_ p l e R s m args below meth c Q N0 G a nA nL (k) (U) (pc + 1) (lv) (zz_v z :: st)) : Ge_ p l e R s m args below meth c Q N0 G a nA nL (k) (U) (pc) (lv) (zz_v y :: zz_v x :: st) := fun hR H locs ls hP hD hS hl => lv_ishr hC.1 hC.2.1 hdg (by
  have h9 := kk _ (zz_rng (Int32.ofInt x >>> (Int32.ofInt y &&& 31))) hR H locs ls hP hD hS hl
  rw [zz_v, zz_asI] at h9
  exact h9)
theorem zy_get {G : zz_G} {a : Nat → Nat} {U : zy_U} {q : Nat} (hq : q < nA.length) : (zy_W G a nA U)[154 + q]? = some (nA.getD q 0, .inl (G.2.1 0, zy_n q, .inl (fun i => Int32.ofInt (U.2.2 q i)))) := by
  rw [zy_W1, List.getElem?_append_right (by rw [zy_l1]; omega), zy_l1, List.getElem?_append_right (by rw [zy_l2]; omega), zy_l2, show 154 + q - 77 - 77 = q by omega]
  unfold zy_ar
  rw [List.getElem?_map, List.getElem?_range hq]
  rfl
theorem zy_set {G : zz_G} {a : Nat → Nat} {U : zy_U} {q j : Nat} {z : Int} (hq : q < nA.length) : (zy_W G a nA U).set (154 + q) (nA.getD q 0, .inl (G.2.1 0, zy_n q, .inl (fun i => Int32.ofInt (va_up (U.2.2 q) j z i)))) = zy_W G a nA (U.1, U.2.1, zz_u U.2.2 q j z) := by
  rw [zy_W1, zy_W1, List.set_append_right _ _ (by rw [zy_l1]; omega), zy_l1, List.set_append_right _ _ (by rw [zy_l2]; omega), zy_l2, show 154 + q - 77 - 77 = q by omega]
  congr 1
  congr 1
  unfold zy_ar
  apply List.ext_getElem?
  intro i
  by_cases hi : i = q
  · subst hi
    rw [List.getElem?_set_self (by rw [List.length_map, List.length_range]; exact hq), List.getElem?_map, List.getElem?_range hq]
    simp only [Option.map_some, zz_u_row]
  · rw [List.getElem?_set_ne (fun e => hi e.symm)]
    by_cases hn : i < nA.length
    · rw [List.getElem?_map, List.getElem?_map, List.getElem?_range hn]
      simp only [Option.map_some, zz_u_off _ _ hi]
    · rw [List.getElem?_eq_none (by rw [List.length_map, List.length_range]; omega), List.getElem?_eq_none (by rw [List.length_map, List.length_range]; omega)]
theorem ge_iald (hC : zz_C p c cc nL s m own) (hK : va_K G.1 vwCl (zz_T G) s) {q j ad : Nat} {i : Int} (hq : q < nA.length) (had : ad = nA.getD q 0) (hi : i = (j : Int)) (hj : j < zy_n q) (hdg : decode cc pc = .ok (.iaload, 1)) (kk : zz_R (U.2.2 q j) → Ge_ p l e R s m args below meth c Q N0 G a nA nL (k) (U) (pc + 1) (lv) (zz_v (U.2.2 q j) :: st)) : Ge_ p l e R s m args below meth c Q N0 G a nA nL (k) (U) (pc) (lv) (zz_v i :: .ref ad :: st) := fun hR H locs ls hP hD hS hl => by
  subst had
  have hn : zy_n q < 2147483648 := by unfold zy_n; split <;> omega
  exact va_iald hC.1 hC.2.1 hK hP (154 + q) 0 (zy_get hq) rfl (zz_in hi hj hn) hdg (by rw [zz_cl hi (by omega)]; exact kk (hR.2.2 q j) hR H locs ls hP hD hS hl)
theorem ge_iast (hC : zz_C p c cc nL s m own) (hK : va_K G.1 vwCl (zz_T G) s) {q j ad : Nat} {i z : Int} (hq : q < nA.length) (had : ad = nA.getD q 0) (hi : i = (j : Int)) (hj : j < zy_n q) (hz : zz_R z) (hdg : decode cc pc = .ok (.iastore, 1)) (kk : Ge_ p l e R s m args below meth c Q N0 G a nA nL (k) (U.1, U.2.1, zz_u U.2.2 q j z) (pc + 1) (lv) (st)) : Ge_ p l e R s m args below meth c Q N0 G a nA nL (k) (U) (pc) (lv) (zz_v z :: zz_v i :: .ref ad :: st) := fun hR H locs ls hP hD hS hl => by
  subst had
  have hn : zy_n q < 2147483648 := by unfold zy_n; split <;> omega
  refine va_iast hC.1 hC.2.1 hK hP hD hS (154 + q) 0 (zy_get hq) rfl (zz_in hi hj hn) hdg (fun H1 locs1 hP1 hD1 hS1 => ?_)
  rw [zz_cl hi (by omega), zz_uA, zy_set hq] at hP1 hD1
  exact kk ⟨hR.1, hR.2.1, zz_Rg_u hR.2.2 hz⟩ H1 locs1 ls hP1 hD1 hS1 hl
theorem ge_call {rm : Room} {K : Nat} {av : List Value} {mc ms : Nat} {post : Option Value → zy_U → Prop} {st0 rest : List Value} (hms : ms = 6 * mc)
    (hr : zy_Rg U → ∀ (H : Heap) (locs : List Loc) (ls : Array Slot), va_P G.1 vwCl (zy_W G a nA U) H → va_D (zz_A N0) (zy_W G a nA U) → va_S (zz_A N0) s.heap H locs → lv_has ls nL lv → vx_Run p l e R s m args below meth c H locs k (6 * k) mc ms (F0 m pc ls st0) rest (zy_Q N0 G a nA post av.toArray) zy_X (zz_A N0))
    (kk : ∀ (v : Option Value) (U' : zy_U), post v U' → Ge_ p l e R s m args below meth c Q N0 G a nA nL (k + mc) (U') (pc + 3) (lv) (v.toList ++ rest)) : Ge_ p l e R s m args below meth c Q N0 G a nA nL (k) (U) (pc) (lv) (st0) := by
  intro hR H locs ls hP hD hS hl T hT X
  have e6 : 6 * k + ms = 6 * (k + mc) := by rw [hms]; omega
  rcases hr hR H locs ls hP hD hS hl T hT X with ⟨v, st₀, t, T', L, h0, X', hL, e1, e2, ⟨⟨v', U', hv, hp, hP', hD', hR'⟩, hF⟩, hst⟩ | ⟨q, st₀, t, T', L, E, ce, h0, X', hL, e1, e2, hX, -⟩
  · cases hv
    obtain ⟨-, -, k3⟩ := vx_keep h0 e1 hS (fun _ _ h => h) (fun _ h => h) hL hF
    rw [← e1] at hP'
    rw [e6] at X'
    obtain ⟨t2, a1, b1⟩ := kk v U' hp hR' T'.heap (locs ++ L) ls hP' hD' k3 hl T' rfl X'
    exact ⟨t2, hst t2 a1, b1⟩
  · exact hX.elim
theorem ge_pre {Y : zz_Y} {av : List Value} {H : Heap} {locs : List Loc} (hN : N0 ≤ s.heap.size) (hK : va_K G.1 vwCl (zz_T G) s) (hE : zz_E N0 Y s) (hR : zy_Rg U) (hP : va_P G.1 vwCl (zy_W G a nA U) H) (hD : va_D (zz_A N0) (zy_W G a nA U)) (hS : va_S (zz_A N0) s.heap H locs) (u : State) (hU : u.heap = H) (hW : s.WarmedH u.vm) : va_Pc av (zy_P N0 G Y a nA U) av.toArray u :=
  ⟨rfl, by rw [hU]; exact Nat.le_trans hN hS.1, by rw [hU]; exact hP, va_K.moved hW.alike hK, hD, hR, zz_E_warm hE hS hU hW⟩
theorem ge_callS {y : MethodName} {bytes : ByteArray} {maxL index n K : Nat} {ret : Option FieldType} {ws : List Cond} {rm : Room} {Y : zz_Y} {As rest : List Value} {post : Option Value → zy_U → Prop} (hC : zz_C p c cc nL s m own) (hF : zz_F s N0 G Y)
    (hM : zy_Rg U → Cy_ l y ws rm K As N0 G Y a nA U post) (cw : CallB R s args own index y bytes maxL ret ws rm K (6 * K) n ∧ (Cond.static y).before args s = true) (hn : As.length = n) (hst : st = As.reverse ++ rest) (hW : (rest.map fun v => v.category).sum ≤ 8) (hdg : decode cc pc = .ok (.invokestatic index, 3)) (hf : k + K ≤ R.cells ∧ 6 * (k + K) ≤ R.slots)
    (kk : ∀ (v : Option Value) (U' : zy_U), post v U' → Ge_ p l e R s m args below meth c Q N0 G a nA nL (k + K) (U') (pc + 3) (lv) (v.toList ++ rest)) : Ge_ p l e R s m args below meth c Q N0 G a nA nL (k) (U) (pc) (lv) (st) :=
  ge_call (rm := rm) (K := K) (av := As) rfl (fun hR H locs ls hP hD hS hl => vx_runS (Ts := []) ⟨hC.1, hC.2.1, hC.2.2.1, hC.2.2.2, fun _ h => nomatch h⟩ (hM hR) cw ⟨zy_blind, ge_pre hF.1 hF.2.1 hF.2.2 hR hP hD hS⟩ rfl hn hl.1 hst (lv_room hW) hdg ⟨hf.1, by have h2 := hf.2; omega⟩) kk
theorem ge_callSX {y : MethodName} {bytes : ByteArray} {hh : List (Nat × Nat × Nat × Nat)} {maxL index n K : Nat} {ret : Option FieldType} {ws : List Cond} {rm : Room} {Y : zz_Y} {As rest : List Value} {post : Option Value → zy_U → Prop} (hC : zz_C p c cc nL s m own) (hF : zz_F s N0 G Y)
    (hM : zy_Rg U → Cy_ l y ws rm K As N0 G Y a nA U post) (cw : vx_CSW R s args own index y bytes maxL ret hh ws rm K (6 * K) n) (hn : As.length = n) (hst : st = As.reverse ++ rest) (hW : (rest.map fun v => v.category).sum ≤ 8) (hdg : decode cc pc = .ok (.invokestatic index, 3)) (hf : k + K ≤ R.cells ∧ 6 * (k + K) ≤ R.slots)
    (kk : ∀ (v : Option Value) (U' : zy_U), post v U' → Ge_ p l e R s m args below meth c Q N0 G a nA nL (k + K) (U') (pc + 3) (lv) (v.toList ++ rest)) : Ge_ p l e R s m args below meth c Q N0 G a nA nL (k) (U) (pc) (lv) (st) :=
  ge_call (rm := rm) (K := K) (av := As) rfl (fun hR H locs ls hP hD hS hl => vx_runSX (Ts := []) ⟨hC.1, hC.2.1, hC.2.2.1, hC.2.2.2, fun _ h => nomatch h⟩ (hM hR) cw ⟨zy_blind, ge_pre hF.1 hF.2.1 hF.2.2 hR hP hD hS⟩ rfl hn hl.1 hst (lv_room hW) hdg ⟨hf.1, by have h2 := hf.2; omega⟩) kk
/-- a question that is put to the first hall -/
theorem ge_ask {y : MethodName} {bytes : ByteArray} {maxL index n K : Nat} {ret : Option FieldType} {ws : List Cond} {rm : Room} {Y : zz_Y} {As rest : List Value} {e1 : Int} {F X1 X2 X3 : Prop} (hC : zz_C p c cc nL s m own) (hF : zz_F s N0 G Y)
    (hM : CtR l y ws rm K (.ref (a 0) :: As) N0 (zy_t G a nA U.2.1 U.2.2) Y a U.1 e1 U.1 F X1 X2 X3) (hX : ¬ X1 ∧ ¬ X2 ∧ ¬ X3) (cw : CallW R s args own RX3 index y bytes maxL ret ws rm K (6 * K) n) (hn : As.length = n) (hst : st = As.reverse ++ .ref (a 0) :: rest) (hW : (rest.map fun v => v.category).sum ≤ 8) (hdg : decode cc pc = .ok (.invokevirtual index, 3)) (hf : k + K ≤ R.cells ∧ 6 * (k + K) ≤ R.slots)
    (kk : F → zz_R e1 → Ge_ p l e R s m args below meth c Q N0 G a nA nL (k + K) (U) (pc + 3) (lv) (zz_v e1 :: rest)) : Ge_ p l e R s m args below meth c Q N0 G a nA nL (k) (U) (pc) (lv) (st) :=
  ge_call (rm := rm) (K := K) (av := .ref (a 0) :: As) rfl (fun hR H locs ls hP hD hS hl => vx_runV (Ts := []) ⟨hC.1, hC.2.1, hC.2.2.1, hC.2.2.2, fun _ h => nomatch h⟩ (Cy_.of1 hR hM (fun E T' h => by
    obtain ⟨-, h⟩ := h
    rcases h with ⟨-, h⟩ | ⟨-, h⟩ | ⟨-, h⟩
    · exact hX.1 h
    · exact hX.2.1 h
    · exact hX.2.2 h)) cw ⟨zy_blind, va_recv hF.2.1 hP (ci := 3) (q := (RX3, TX3, 11)) rfl (q0 := 0) (zz_W_get (by decide)), ge_pre hF.1 hF.2.1 hF.2.2 hR hP hD hS⟩ rfl hn hl.1 hst (lv_room hW) hdg ⟨hf.1, by have h2 := hf.2; omega⟩) (fun v U' h => by
    obtain ⟨T', rfl, r, hr, rfl, rfl, rfl, hp⟩ := h
    exact kk hp hr)
theorem ge_ireturn {mc : Nat} {z : Int} {post : Option Value → zy_U → Prop} {ty : FieldType} (hC : zz_C p c cc nL s m own) (hr : meth.sig.returnType = some ty) (hn : narrow ty (zz_v z) = zz_v z) (hlocks : meth.locks = false) (hdg : decode cc pc = .ok (.ireturn, 1)) (hk : k ≤ mc) (hp : post (some (zz_v z)) U) : Ge_ p l e R s m args below meth c (vx_MQ below (zy_Q N0 G a nA post) zy_X args s mc (6 * mc) (zz_A N0)) N0 G a nA nL k U pc lv [zz_v z] := by
  intro hR H locs ls hP hD hS hl
  refine vx_ret (W.widen hk (show 6 * k ≤ 6 * mc by omega) ?_)
  exact W.zret (v := Int32.ofInt z) hC.1 hC.2.1 hr hn (fun t ht hW => ⟨⟨_, U, rfl, hp, by rw [ht]; exact hP, hD, hR⟩, hS.F ht⟩) hS.2.2 hdg hlocks
end ZY
/-- a contract out of the walk of its body -/
theorem Cy_.of {l : Launch} {y : MethodName} {ws ws' : List Cond} {rm : Room} {K : Nat} {av : List Value} {N0 : Nat} {G : zz_G} {Y : zz_Y} {a : Nat → Nat} {nA : List Nat} {U : zy_U} {post : Option Value → zy_U → Prop} {cc : ByteArray} {maxL : Nat} {ret : Option FieldType}
    (hy : plainName y.cls = true) (hw : ws = Cond.code y cc maxL ret :: ws') (hlen : (lg_sl av).length ≤ maxL)
    (body : ∀ (p : Program) (e : Env) (s : State) (m : MethodId) (args : Array Value) (below : List Frame) (meth : Method) (c : Code), zz_C p c cc maxL s m y.cls → (∀ w ∈ ws, w.before args s = true) → meth.sig.returnType = ret → meth.locks = false → zz_F s N0 G Y →
      Ge_ p l e rm s m args below meth c (vx_MQ below (zy_Q N0 G a nA post) zy_X args s K (6 * K) (zz_A N0)) N0 G a nA maxL 0 U 0 (lv_args 0 av) []) : Cy_ l y ws rm K av N0 G Y a nA U post := by
  refine vx_ofW hy hw ?_
  intro p e s m args below meth c s₁ B hml ht hv
  obtain ⟨rfl, h1, h2, h3, h4, h5, h6⟩ := hv
  have hl := lv_entry av (n := maxL) hlen
  have hg := body p e s m av.toArray below meth c ⟨B.exec, B.bytes, hml, findClass_of_methodNamed B.named⟩ (atoms_spec (ws := ws) B.pre) B.returns B.notSynchronized ⟨h1, h3, h6⟩ h5 s.heap [] _ h2 h4 va_S.rf hl
  rw [lg_entry_eq]
  exact hg
