/-! objects being made: a world that grows, place by place -/
def zc_W (Z : va_W) (a : Nat → Nat) (E : Nat → va_E) (n : Nat) : va_W := Z ++ (List.range n).map fun k => (a k, E k)
theorem zc_get {Z : va_W} {a : Nat → Nat} {E : Nat → va_E} {n k : Nat} (h : k < n) : (zc_W Z a E n)[Z.length + k]? = some (a k, E k) := by
  unfold zc_W
  rw [List.getElem?_append_right (Nat.le_add_right _ _), Nat.add_sub_cancel_left, List.getElem?_map, List.getElem?_range h]
  rfl
theorem zc_len {Z : va_W} {a : Nat → Nat} {E : Nat → va_E} {n : Nat} : (zc_W Z a E n).length = Z.length + n := by
  unfold zc_W
  rw [List.length_append, List.length_map, List.length_range]
theorem zc_low {Z : va_W} {a : Nat → Nat} {E : Nat → va_E} {n j : Nat} (h : j < Z.length) : (zc_W Z a E n)[j]? = Z[j]? := by
  unfold zc_W
  rw [List.getElem?_append_left h]
theorem zc_set {Z : va_W} {a : Nat → Nat} {E : Nat → va_E} {n k : Nat} {e : va_E} (h : k < n) : (zc_W Z a E n).set (Z.length + k) (a k, e) = zc_W Z a (va_up E k e) n := by
  apply List.ext_getElem?
  intro j
  by_cases hz : j < Z.length
  · rw [List.getElem?_set_ne (by omega), zc_low hz, zc_low hz]
  · obtain ⟨i, rfl⟩ : ∃ i, j = Z.length + i := ⟨j - Z.length, by omega⟩
    by_cases hj : i = k
    · subst hj
      rw [List.getElem?_set_self (by rw [zc_len]; omega), zc_get h, va_up_self]
    · rw [List.getElem?_set_ne (by omega)]
      by_cases hn : i < n
      · rw [zc_get hn, zc_get hn, va_up_ne _ _ hj]
      · rw [List.getElem?_eq_none (by rw [zc_len]; omega), List.getElem?_eq_none (by rw [zc_len]; omega)]
theorem zc_push {Z : va_W} {a : Nat → Nat} {E : Nat → va_E} {n q : Nat} {e : va_E} : zc_W Z a E n ++ [(q, e)] = zc_W Z (va_up a n q) (va_up E n e) (n + 1) := by
  unfold zc_W
  rw [List.append_assoc]
  congr 1
  rw [List.range_succ, List.map_append, List.map_singleton, va_up_self, va_up_self]
  congr 1
  exact List.map_congr_left (fun j hj => by rw [va_up_ne _ _ (Nat.ne_of_lt (List.mem_range.mp hj)), va_up_ne _ _ (Nat.ne_of_lt (List.mem_range.mp hj))])
theorem zc_same {U : State} {x y : ClassId} {ty : FieldType} (h1 : va_RA U x ty) (h2 : va_RA U y ty) : y = x := by
  cases ty with
  | object C =>
    obtain ⟨-, -, -, -, -, e1⟩ := h1
    obtain ⟨-, -, -, -, -, e2⟩ := h2
    exact Option.some.inj (e2.symm.trans e1)
  | _ =>
    have e1 : U.vm.findClass _ = some x := h1
    have e2 : U.vm.findClass _ = some y := h2
    exact Option.some.inj (e2.symm.trans e1)
/-- the judgement, while objects are being made: n places; k cells and ms slots of the room are used -/
def Cd_ (p : Program) (l : Launch) (e : Env) (R : Room) (s : State) (m : MethodId) (args : Array Value) (below : List Frame) (meth : Method) (c : Code) (Q : State → Prop) (N0 : Nat) (D : va_G × va_W) (nL k ms n : Nat) (a : Nat → Nat) (E : Nat → va_E) (pc : Nat) (lv : List (Nat × Value)) (st : List Value) : Prop :=
  ∀ (H : Heap) (locs : List Loc) (ls : Array Slot), va_P D.1 vwCl (zc_W D.2 a E n) H → va_D (zz_A N0) (zc_W D.2 a E n) → va_S (zz_A N0) s.heap H locs → lv_has ls nL lv → W p l e R s m args below meth c H locs k ms Q (F0 m pc ls st)
def zc_K (G : zz_G) (U : State) : Prop := va_K G.1 vwCl (zz_T G) U ∧ va_AO RX0 U ∧ va_AO RX2 U
theorem zc_K.moved {G : zz_G} {u U : State} (hvm : u.vm.Alike U.vm) (h : zc_K G u) : zc_K G U := ⟨va_K.moved hvm h.1, va_AO.moved hvm h.2.1, va_AO.moved hvm h.2.2⟩
def zc_P (N0 : Nat) (G : zz_G) (a : Nat → Nat) (E : Nat → va_E) (n : Nat) (U : State) : Prop := N0 ≤ U.heap.size ∧ va_P G.1 vwCl (zc_W G.2.2 a E n) U.heap ∧ zc_K G U ∧ va_D (zz_A N0) (zc_W G.2.2 a E n)
def zc_Q (N0 : Nat) (G : zz_G) (n' : Nat) (post : (Nat → Nat) → (Nat → va_E) → Prop) : Array Value → State → Outcome → State → Prop := va_Qv (fun u : (Nat → Nat) × (Nat → va_E) => post u.1 u.2) (fun u t => va_P G.1 vwCl (zc_W G.2.2 u.1 u.2 n') t.heap ∧ va_D (zz_A N0) (zc_W G.2.2 u.1 u.2 n')) (zz_A N0)
/-- a constructor's contract: from n places to n', of which 'post' speaks -/
def Kt_ (l : Launch) (y : MethodName) (ws : List Cond) (rm : Room) (mc ms : Nat) (av : List Value) (N0 : Nat) (G : zz_G) (a : Nat → Nat) (E : Nat → va_E) (n n' : Nat) (post : (Nat → Nat) → (Nat → va_E) → Prop) : Prop :=
  Met l y ws rm (va_Pc av (zc_P N0 G a E n)) (zc_Q N0 G n' post) mc ms (zz_A N0)
theorem zc_blind {N0 : Nat} {G : zz_G} {a : Nat → Nat} {E : Nat → va_E} {n : Nat} {av : List Value} : FrameBlind (va_Pc av (zc_P N0 G a E n)) := by
  intro v U g mk h
  obtain ⟨h0, h1, h2, h3, h4⟩ := h
  exact ⟨h0, h1, h2, zc_K.moved (u := U) (U := U.calling g mk v) (Vm.Alike.refl U.vm) h3, h4⟩
theorem Kt_.of {l : Launch} {y : MethodName} {ws ws' : List Cond} {rm : Room} {mc ms : Nat} {av : List Value} {N0 : Nat} {G : zz_G} {a : Nat → Nat} {E : Nat → va_E} {n n' : Nat} {post : (Nat → Nat) → (Nat → va_E) → Prop} {cc : ByteArray} {maxL : Nat}
    (hy : plainName y.cls = true) (hw : ws = Cond.code y cc maxL none :: ws') (hlen : (lg_sl av).length ≤ maxL)
    (body : ∀ (p : Program) (e : Env) (s : State) (m : MethodId) (args : Array Value) (below : List Frame) (meth : Method) (c : Code), zz_C p c cc maxL s m y.cls → (∀ w ∈ ws, w.before args s = true) → meth.sig.returnType = none → meth.locks = false → meth.name = y.name → N0 ≤ s.heap.size → zc_K G s →
      Cd_ p l e rm s m args below meth c (MQ below (zc_Q N0 G n' post) args s mc ms (zz_A N0)) N0 (G.1, G.2.2) maxL 0 0 n a E 0 (lv_args 0 av) []) : Kt_ l y ws rm mc ms av N0 G a E n n' post := by
  refine Met.ofW (cc := cc) (maxL := maxL) (ret := none) hy hw ?_
  intro p e s m args below meth c s₁ B hml hv
  obtain ⟨rfl, h1, h2, h3, h4⟩ := hv
  have hl := lv_entry av (n := maxL) hlen
  have hg := body p e s m av.toArray below meth c ⟨B.exec, B.bytes, hml, findClass_of_methodNamed B.named⟩ (atoms_spec (ws := ws) B.pre) B.returns B.notSynchronized (name_of_methodNamed B.named B.method).1 h1 h3 s.heap [] _ h2 h4 va_S.rf hl
  rw [lg_entry_eq]
  exact hg
section ZN
variable {p : Program} {l : Launch} {e : Env} {R : Room} {s : State} {m : MethodId} {args : Array Value} {below : List Frame} {meth : Method} {c : Code} {Q : State → Prop} {N0 : Nat} {D : va_G × va_W} {nL k ms n : Nat} {a : Nat → Nat} {E : Nat → va_E} {pc : Nat} {lv : List (Nat × Value)} {st : List Value} {cc : ByteArray} {own : String}
theorem cd_aload_n (hC : zz_C p c cc nL s m own) {q : Fin 4} {i j : Nat} {x : Nat} (hdg : decode cc pc = .ok (.aload_n q, 1)) (hi : (q : Nat) = i) (hj : lv[j]? = some (i, .ref x)) (kk : Cd_ p l e R s m args below meth c Q N0 D nL (k) (ms) (n) (a) (E) (pc + 1) (lv) (.ref x :: st)) : Cd_ p l e R s m args below meth c Q N0 D nL (k) (ms) (n) (a) (E) (pc) (lv) (st) := fun H locs ls hP hD hS hl => lv_aload_n hC.1 hC.2.1 hdg hi (lv_at hl j hj) (kk H locs ls hP hD hS hl)
theorem cd_iload_n (hC : zz_C p c cc nL s m own) {q : Fin 4} {i j : Nat} {z : Int} (hdg : decode cc pc = .ok (.iload_n q, 1)) (hi : (q : Nat) = i) (hj : lv[j]? = some (i, zz_v z)) (kk : Cd_ p l e R s m args below meth c Q N0 D nL (k) (ms) (n) (a) (E) (pc + 1) (lv) (zz_v z :: st)) : Cd_ p l e R s m args below meth c Q N0 D nL (k) (ms) (n) (a) (E) (pc) (lv) (st) := fun H locs ls hP hD hS hl => lv_iload_n hC.1 hC.2.1 hdg hi (lv_at hl j hj) (kk H locs ls hP hD hS hl)
theorem cd_iconst (hC : zz_C p c cc nL s m own) {z : Int} (hdg : decode cc pc = .ok (.iconst z, 1)) (kk : Cd_ p l e R s m args below meth c Q N0 D nL (k) (ms) (n) (a) (E) (pc + 1) (lv) (zz_v z :: st)) : Cd_ p l e R s m args below meth c Q N0 D nL (k) (ms) (n) (a) (E) (pc) (lv) (st) := fun H locs ls hP hD hS hl => lv_iconst hC.1 hC.2.1 hdg rfl (kk H locs ls hP hD hS hl)
theorem cd_bipush (hC : zz_C p c cc nL s m own) {z : Int} (hdg : decode cc pc = .ok (.bipush z, 2)) (hv : (Int8.ofInt z).toInt32 = Int32.ofInt z) (kk : Cd_ p l e R s m args below meth c Q N0 D nL (k) (ms) (n) (a) (E) (pc + 2) (lv) (zz_v z :: st)) : Cd_ p l e R s m args below meth c Q N0 D nL (k) (ms) (n) (a) (E) (pc) (lv) (st) := fun H locs ls hP hD hS hl => lv_bipush hC.1 hC.2.1 hdg hv (kk H locs ls hP hD hS hl)
theorem cd_sipush (hC : zz_C p c cc nL s m own) {z : Int} (hdg : decode cc pc = .ok (.sipush z, 3)) (hv : (Int16.ofInt z).toInt32 = Int32.ofInt z) (kk : Cd_ p l e R s m args below meth c Q N0 D nL (k) (ms) (n) (a) (E) (pc + 3) (lv) (zz_v z :: st)) : Cd_ p l e R s m args below meth c Q N0 D nL (k) (ms) (n) (a) (E) (pc) (lv) (st) := fun H locs ls hP hD hS hl => lv_sipush hC.1 hC.2.1 hdg hv (kk H locs ls hP hD hS hl)
theorem cd_ldc (hC : zz_C p c cc nL s m own) {z : Int} {index : Nat} (hw : (Cond.constant own index (Int32.ofInt z)).before args s = true) (hdg : decode cc pc = .ok (.ldc index, 2)) (kk : Cd_ p l e R s m args below meth c Q N0 D nL (k) (ms) (n) (a) (E) (pc + 2) (lv) (zz_v z :: st)) : Cd_ p l e R s m args below meth c Q N0 D nL (k) (ms) (n) (a) (E) (pc) (lv) (st) := fun H locs ls hP hD hS hl => lv_ldc hC.1 hC.2.1 hC.2.2.2 hw hdg (kk H locs ls hP hD hS hl)
theorem cd_dup (hC : zz_C p c cc nL s m own) {v : Value} (hdg : decode cc pc = .ok (.dup, 1)) (hv : v.category = 1) (kk : Cd_ p l e R s m args below meth c Q N0 D nL (k) (ms) (n) (a) (E) (pc + 1) (lv) (v :: v :: st)) : Cd_ p l e R s m args below meth c Q N0 D nL (k) (ms) (n) (a) (E) (pc) (lv) (v :: st) := fun H locs ls hP hD hS hl => lv_dup hC.1 hC.2.1 hdg hv (kk H locs ls hP hD hS hl)
theorem cd_goto (hC : zz_C p c cc nL s m own) {off : Int} {tgt : Nat} (hdg : decode cc pc = .ok (.goto off, 3)) (ht : (pc : Int) + off = (tgt : Int)) (kk : Cd_ p l e R s m args below meth c Q N0 D nL (k) (ms) (n) (a) (E) (tgt) (lv) (st)) : Cd_ p l e R s m args below meth c Q N0 D nL (k) (ms) (n) (a) (E) (pc) (lv) (st) := fun H locs ls hP hD hS hl => lv_goto hC.1 hC.2.1 hdg ht (kk H locs ls hP hD hS hl)
theorem cd_istore_n (hC : zz_C p c cc nL s m own) {q : Fin 4} {i : Nat} {z : Int} {lv' : List (Nat × Value)} (hdg : decode cc pc = .ok (.istore_n q, 1)) (hi : (q : Nat) = i) (hn : i < nL) (hl' : (i, zz_v z) :: lv.filter (fun q => !(q.1 == i) && !(q.1 + 1 == i && q.2.category == 2)) = lv') (kk : Cd_ p l e R s m args below meth c Q N0 D nL (k) (ms) (n) (a) (E) (pc + 1) (lv') (st)) : Cd_ p l e R s m args below meth c Q N0 D nL (k) (ms) (n) (a) (E) (pc) (lv) (zz_v z :: st) := fun H locs ls hP hD hS hl => lv_istore_n hC.1 hC.2.1 hdg hi hl hn hl' (fun ls' hl2 => kk H locs ls' hP hD hS hl2)
theorem cd_astore_n (hC : zz_C p c cc nL s m own) {q : Fin 4} {i : Nat} {x : Nat} {lv' : List (Nat × Value)} (hdg : decode cc pc = .ok (.astore_n q, 1)) (hi : (q : Nat) = i) (hn : i < nL) (hl' : (i, .ref x) :: lv.filter (fun q => !(q.1 == i) && !(q.1 + 1 == i && q.2.category == 2)) = lv') (kk : Cd_ p l e R s m args below meth c Q N0 D nL (k) (ms) (n) (a) (E) (pc + 1) (lv') (st)) : Cd_ p l e R s m args below meth c Q N0 D nL (k) (ms) (n) (a) (E) (pc) (lv) (.ref x :: st) := fun H locs ls hP hD hS hl => lv_astore_n hC.1 hC.2.1 hdg hi hl hn hl' (fun ls' hl2 => kk H locs ls' hP hD hS hl2)
theorem cd_istore (hC : zz_C p c cc nL s m own) {i : Nat} {z : Int} {lv' : List (Nat × Value)} (hdg : decode cc pc = .ok (.istore i, 2)) (hn : i < nL) (hl' : (i, zz_v z) :: lv.filter (fun q => !(q.1 == i) && !(q.1 + 1 == i && q.2.category == 2)) = lv') (kk : Cd_ p l e R s m args below meth c Q N0 D nL (k) (ms) (n) (a) (E) (pc + 2) (lv') (st)) : Cd_ p l e R s m args below meth c Q N0 D nL (k) (ms) (n) (a) (E) (pc) (lv) (zz_v z :: st) := fun H locs ls hP hD hS hl => lv_istore hC.1 hC.2.1 hdg hl hn hl' (fun ls' hl2 => kk H locs ls' hP hD hS hl2)
theorem cd_iinc (hC : zz_C p c cc nL s m own) {i j : Nat} {z x y : Int} {lv' : List (Nat × Value)} (hdg : decode cc pc = .ok (.iinc i z, 3)) (hj : lv[j]? = some (i, zz_v x)) (hy : x + z = y) (hn : i < nL) (hl' : (i, zz_v y) :: lv.filter (fun q => !(q.1 == i) && !(q.1 + 1 == i && q.2.category == 2)) = lv') (kk : Cd_ p l e R s m args below meth c Q N0 D nL (k) (ms) (n) (a) (E) (pc + 3) (lv') (st)) : Cd_ p l e R s m args below meth c Q N0 D nL (k) (ms) (n) (a) (E) (pc) (lv) (st) := fun H locs ls hP hD hS hl => lv_iinc (v := Int32.ofInt y) hC.1 hC.2.1 hdg hl hj (by rw [← hy, Int32.ofInt_add]) hn hl' (fun ls' hl2 => kk H locs ls' hP hD hS hl2)
theorem cd_icmp_ge (hC : zz_C p c cc nL s m own) {x y off : Int} {tgt : Nat} (hdg : decode cc pc = .ok (.if_icmp .ge off, 3)) (ht : (pc : Int) + off = (tgt : Int)) (hx : zz_R x) (hy : zz_R y) (kt : y ≤ x → Cd_ p l e R s m args below meth c Q N0 D nL (k) (ms) (n) (a) (E) (tgt) (lv) (st)) (kf : ¬ y ≤ x → Cd_ p l e R s m args below meth c Q N0 D nL (k) (ms) (n) (a) (E) (pc + 3) (lv) (st)) : Cd_ p l e R s m args below meth c Q N0 D nL (k) (ms) (n) (a) (E) (pc) (lv) (zz_v y :: zz_v x :: st) := fun H locs ls hP hD hS hl => lv_icmp_ge hC.1 hC.2.1 hdg ht (fun q => kt ((zz_le hy hx).mp q) H locs ls hP hD hS hl) (fun q => kf (fun z => q ((zz_le hy hx).mpr z)) H locs ls hP hD hS hl)
theorem cd_new (hC : zz_C p c cc nL s m own) {C : String} {T : u_T} {N ci index : Nat} (hN : N0 ≤ s.heap.size) (hcw : ∀ w ∈ u_ws C T N, w.before args s = true) (ty : Nat → FieldType) (hty : ∀ k, k < N → parseFieldDescriptor (T k).2.2.1 = some (ty k)) (hcl : (Cond.classLink own index C).before args s = true) (hinst : (Cond.instantiable C N).before args s = true) (hini : (Cond.initialized C).before args s = true) {tys : List (ClassId × FieldType)} (hK : va_K D.1 vwCl tys s) (hc : vwCl[ci]? = some (C, T, N)) {fs : List Value} (hfs : ∀ j, j < N → defaultValue (ty j) = vp_V fs j) (hcells : k + 1 ≤ R.cells) (hslots : ms + N ≤ R.slots) (hdg : decode cc pc = .ok (.new index, 3)) (kk : ∀ q : Nat, Cd_ p l e R s m args below meth c Q N0 D nL (k + 1) (ms + N) (n + 1) (va_up a n q) (va_up E n (.inr (ci, fs))) (pc + 3) (lv) (.ref q :: st)) : Cd_ p l e R s m args below meth c Q N0 D nL (k) (ms) (n) (a) (E) (pc) (lv) (st) := fun H locs ls hP hD hS hl => va_new hC.1 hC.2.1 hcw (fun _ h => h) ty hty hC.2.2.2 hcl hinst hini hK hP hD hS (fun q h => Nat.le_trans hN h) hc hfs hcells hslots hdg (fun q H1 hP1 hD1 hS1 => by
  rw [zc_push] at hP1 hD1
  exact kk q H1 locs ls hP1 hD1 hS1 hl)
theorem cd_newa (hC : zz_C p c cc nL s m own) {G : zz_G} (hDG : D = (G.1, G.2.2)) (hN : N0 ≤ s.heap.size) {atype : ArrayType} (harr : (Cond.arrayClass (newarray.typeOf atype)).before args s = true) {ty : FieldType} (hty : newarray.typeOf atype = ty) (hK : va_K D.1 vwCl (zz_T G) s) (t : Nat) (ht : (zz_T G)[t]? = some (G.2.1 t, ty)) {z : Int} {N : Nat} {x : (Nat → Int32) ⊕ (Nat → Int64) ⊕ (Nat → UInt32) ⊕ (Nat → UInt64) ⊕ (Nat → Option Nat)} (ha : ∀ cA : ClassId, vp_cell cA (N, x) = arrV cA N (fun _ => defaultValue ty)) (hz : z = (N : Int)) (hN9 : N < 1000000) (hb : N * componentBytes ty ≤ 536870912) (hcells : k + 1 ≤ R.cells) (hslots : ms + N ≤ R.slots) (hdg : decode cc pc = .ok (.newarray atype, 2)) (kk : ∀ q : Nat, Cd_ p l e R s m args below meth c Q N0 D nL (k + 1) (ms + N) (n + 1) (va_up a n q) (va_up E n (.inl (G.2.1 t, N, x))) (pc + 2) (lv) (.ref q :: st)) : Cd_ p l e R s m args below meth c Q N0 D nL (k) (ms) (n) (a) (E) (pc) (lv) (zz_v z :: st) := fun H locs ls hP hD hS hl => va_newa hC.1 hC.2.1 harr hty hK hP hD hS (fun q h => Nat.le_trans hN h) (a0 := (N, x)) ha (by rw [zz_lt0 ⟨by omega, by omega⟩]; omega) (zz_cl hz (by omega)) hb hcells hslots hdg (fun q cA H1 hK1 hP1 hD1 hS1 => by
  have e1 : cA = G.2.1 t := zc_same (hK.2 t _ ht).2 (hK1.2 (zz_T G).length (cA, ty) (by rw [List.getElem?_append_right (Nat.le_refl _), Nat.sub_self]; rfl)).2
  rw [e1, zc_push] at hP1 hD1
  exact kk q H1 locs ls hP1 hD1 hS1 hl)
theorem cd_newq (hC : zz_C p c cc nL s m own) {G : zz_G} (hDG : D = (G.1, G.2.2)) (hN : N0 ≤ s.heap.size) {C : String} {index : Nat} (hclink : (Cond.classLink own index C).before args s = true) (hover : va_AO C s) (hK : va_K D.1 vwCl (zz_T G) s) (t : Nat) (ht : (zz_T G)[t]? = some (G.2.1 t, .object C)) {z : Int} {N : Nat} (hz : z = (N : Int)) (hN9 : N < 1000000) (hcells : k + 1 ≤ R.cells) (hslots : ms + N ≤ R.slots) (hdg : decode cc pc = .ok (.anewarray index, 3)) (kk : ∀ q : Nat, Cd_ p l e R s m args below meth c Q N0 D nL (k + 1) (ms + N) (n + 1) (va_up a n q) (va_up E n (.inl (G.2.1 t, N, .inr (.inr (.inr (.inr (fun _ => none))))))) (pc + 3) (lv) (.ref q :: st)) : Cd_ p l e R s m args below meth c Q N0 D nL (k) (ms) (n) (a) (E) (pc) (lv) (zz_v z :: st) := fun H locs ls hP hD hS hl => va_newq hC.1 hC.2.1 hC.2.2.2 hclink hover hK hP hD hS (fun q h => Nat.le_trans hN h) (by rw [zz_lt0 ⟨by omega, by omega⟩]; omega) (zz_cl hz (by omega)) (by omega) hcells hslots hdg (fun q cA H1 hK1 hP1 hD1 hS1 => by
  have e1 : cA = G.2.1 t := zc_same (hK.2 t _ ht).2 (hK1.2 (zz_T G).length (cA, .object C) (by rw [List.getElem?_append_right (Nat.le_refl _), Nat.sub_self]; rfl)).2
  rw [e1, zc_push] at hP1 hD1
  exact kk q H1 locs ls hP1 hD1 hS1 hl)
theorem cd_put (hC : zz_C p c cc nL s m own) {ref C : String} {T : u_T} {N ci index b x : Nat} {fs : List Value} (hcw : ∀ w ∈ u_ws C T N, w.before args s = true) (ty0 : Nat → FieldType) (hty : ∀ k, k < N → parseFieldDescriptor (T k).2.2.1 = some (ty0 k)) (hnm : ∀ a, a < N → ∀ b, b < N → a ≠ b → (T a).2.1 ≠ (T b).2.1) {tys : List (ClassId × FieldType)} (hK : va_K D.1 vwCl tys s) (hb : b < n) (hx : a b = x) (hE : E b = .inr (ci, fs)) (hc : vwCl[ci]? = some (C, T, N)) (f : Nat) (hf : f < N) (hlink : (Cond.fieldLink own index ref (T f).2.1 (T f).2.2.1).before args s = true) (hsame : (T f).1 = ref) (hfin : (T f).2.2.2 = false) {ty : FieldType} {v : Value} (hd : parseFieldDescriptor (T f).2.2.1 = some ty) (hn : narrow ty v = v) (hfit : fits ty v = true) (hlen : f < fs.length) (hdg : decode cc pc = .ok (.putfield index, 3)) (kk : Cd_ p l e R s m args below meth c Q N0 D nL (k) (ms) (n) (a) (va_up E b (.inr (ci, fs.set f v))) (pc + 3) (lv) (st)) : Cd_ p l e R s m args below meth c Q N0 D nL (k) (ms) (n) (a) (E) (pc) (lv) (v :: .ref x :: st) := fun H locs ls hP hD hS hl => (by
  subst hx
  exact va_put hC.1 hC.2.1 hcw (fun _ h => h) ty0 hty hnm hC.2.2.2 hK hP hD hS (D.2.length + b) (by rw [zc_get hb, hE]) hc f hf hlink (fun x h => by rw [← hsame]; exact h) hfin hd hn hfit hlen hdg (fun H1 locs1 hP1 hD1 hS1 => by
  rw [zc_set hb] at hP1 hD1
  exact kk H1 locs1 ls hP1 hD1 hS1 hl))
theorem cd_putF (hC : zz_C p c cc nL s m own) {ref C : String} {T : u_T} {N ci index b x : Nat} {fs : List Value} (hcw : ∀ w ∈ u_ws C T N, w.before args s = true) (ty0 : Nat → FieldType) (hty : ∀ k, k < N → parseFieldDescriptor (T k).2.2.1 = some (ty0 k)) (hnm : ∀ a, a < N → ∀ b, b < N → a ≠ b → (T a).2.1 ≠ (T b).2.1) {tys : List (ClassId × FieldType)} (hK : va_K D.1 vwCl tys s) (hb : b < n) (hx : a b = x) (hE : E b = .inr (ci, fs)) (hc : vwCl[ci]? = some (C, T, N)) (f : Nat) (hf : f < N) (hlink : (Cond.fieldLink own index ref (T f).2.1 (T f).2.2.1).before args s = true) (hsame : (T f).1 = ref) (hfin : (T f).2.2.2 = true) (hin : meth.name = "<init>") (hdecl : (T f).1 = own) {ty : FieldType} {v : Value} (hd : parseFieldDescriptor (T f).2.2.1 = some ty) (hn : narrow ty v = v) (hfit : fits ty v = true) (hlen : f < fs.length) (hdg : decode cc pc = .ok (.putfield index, 3)) (kk : Cd_ p l e R s m args below meth c Q N0 D nL (k) (ms) (n) (a) (va_up E b (.inr (ci, fs.set f v))) (pc + 3) (lv) (st)) : Cd_ p l e R s m args below meth c Q N0 D nL (k) (ms) (n) (a) (E) (pc) (lv) (v :: .ref x :: st) := fun H locs ls hP hD hS hl => (by
  subst hx
  exact va_putF hC.1 hC.2.1 hcw (fun _ h => h) ty0 hty hnm hC.2.2.2 hK hP hD hS (D.2.length + b) (by rw [zc_get hb, hE]) hc f hf hlink (fun x h => by rw [← hsame]; exact h) hfin hin hdecl hd hn hfit hlen hdg (fun H1 locs1 hP1 hD1 hS1 => by
  rw [zc_set hb] at hP1 hD1
  exact kk H1 locs1 ls hP1 hD1 hS1 hl))
theorem cd_get (hC : zz_C p c cc nL s m own) {ref C : String} {T : u_T} {N ci index b x : Nat} {fs : List Value} (hcw : ∀ w ∈ u_ws C T N, w.before args s = true) {tys : List (ClassId × FieldType)} (hK : va_K D.1 vwCl tys s) (hb : b < n) (hx : a b = x) (hE : E b = .inr (ci, fs)) (hc : vwCl[ci]? = some (C, T, N)) (f : Nat) (hf : f < N) (hlink : (Cond.fieldLink own index ref (T f).2.1 (T f).2.2.1).before args s = true) (hsame : (T f).1 = ref) {v : Value} (hv : fs[f]? = some v) (hdg : decode cc pc = .ok (.getfield index, 3)) (kk : Cd_ p l e R s m args below meth c Q N0 D nL (k) (ms) (n) (a) (E) (pc + 3) (lv) (v :: st)) : Cd_ p l e R s m args below meth c Q N0 D nL (k) (ms) (n) (a) (E) (pc) (lv) (.ref x :: st) := fun H locs ls hP hD hS hl => (by
  subst hx
  exact va_get hC.1 hC.2.1 hcw (fun _ h => h) hC.2.2.2 hK hP (D.2.length + b) (by rw [zc_get hb, hE]) hc f hf hlink (fun x h => by rw [← hsame]; exact h) hv hdg (kk H locs ls hP hD hS hl))
theorem cd_iast (hC : zz_C p c cc nL s m own) {b x j N t : Nat} {cA : ClassId} {f : Nat → Int32} {i z : Int} {tys : List (ClassId × FieldType)} (hK : va_K D.1 vwCl tys s) (ht : tys[t]? = some (cA, .int)) (hb : b < n) (hx : a b = x) (hE : E b = .inl (cA, N, .inl f)) (hi : i = (j : Int)) (hj : j < N) (hN9 : N < 1000000) (hdg : decode cc pc = .ok (.iastore, 1)) (kk : Cd_ p l e R s m args below meth c Q N0 D nL (k) (ms) (n) (a) (va_up E b (.inl (cA, N, .inl (upd f j (Int32.ofInt z))))) (pc + 1) (lv) (st)) : Cd_ p l e R s m args below meth c Q N0 D nL (k) (ms) (n) (a) (E) (pc) (lv) (zz_v z :: zz_v i :: .ref x :: st) := fun H locs ls hP hD hS hl => (by
  subst hx
  refine va_iast hC.1 hC.2.1 hK hP hD hS (D.2.length + b) t (by rw [zc_get hb, hE]) ht (zz_in hi hj (by omega)) hdg (fun H1 locs1 hP1 hD1 hS1 => ?_)
  rw [zz_cl hi (by omega), zc_set hb] at hP1 hD1
  exact kk H1 locs1 ls hP1 hD1 hS1 hl)
theorem cd_astq (hC : zz_C p c cc nL s m own) {b x j N t g v ci : Nat} {r : vw_C} {cA : ClassId} {vs : List Value} {f : Nat → Option Nat} {i : Int} {tys : List (ClassId × FieldType)} (hK : va_K D.1 vwCl tys s) (ht : tys[t]? = some (cA, .object r.1)) (hb : b < n) (hx : a b = x) (hE : E b = .inl (cA, N, .inr (.inr (.inr (.inr f))))) (hg : g < n) (hv : a g = v) (hEg : E g = .inr (ci, vs)) (hc : vwCl[ci]? = some r) (hi : i = (j : Int)) (hj : j < N) (hN9 : N < 1000000) (hdg : decode cc pc = .ok (.aastore, 1)) (kk : Cd_ p l e R s m args below meth c Q N0 D nL (k) (ms) (n) (a) (va_up E b (.inl (cA, N, .inr (.inr (.inr (.inr (va_up f j (some v)))))))) (pc + 1) (lv) (st)) : Cd_ p l e R s m args below meth c Q N0 D nL (k) (ms) (n) (a) (E) (pc) (lv) (.ref v :: zz_v i :: .ref x :: st) := fun H locs ls hP hD hS hl => (by
  subst hx
  subst hv
  refine va_astq hC.1 hC.2.1 hK hP hD hS (D.2.length + b) t (D.2.length + g) ci (by rw [zc_get hb, hE]) ht (by rw [zc_get hg, hEg]) hc (zz_in hi hj (by omega)) hdg (fun H1 locs1 hP1 hD1 hS1 => ?_)
  rw [zz_cl hi (by omega), zc_set hb] at hP1 hD1
  exact kk H1 locs1 ls hP1 hD1 hS1 hl)
theorem cd_obj (hC : zz_C p c cc nL s m own) {idx x : Nat} (hlink : (Cond.methodLink own idx objectInit).before args s = true) (hinst : (Cond.instanceMethod objectInit).before args s = true) (hcode : (Cond.code objectInit ⟨#[0xb1]⟩ 1 none).before args s = true) (hfr : 1 ≤ R.frames) (hlo : (st.map fun v => v.category).sum + 12 ≤ R.locals) (hdg : decode cc pc = .ok (.invokespecial idx, 3)) (kk : Cd_ p l e R s m args below meth c Q N0 D nL (k) (ms) (n) (a) (E) (pc + 3) (lv) (st)) : Cd_ p l e R s m args below meth c Q N0 D nL (k) (ms) (n) (a) (E) (pc) (lv) (.ref x :: st) := fun H locs ls hP hD hS hl => W.objInit hC.1 hC.2.1 hC.2.2.2 hlink hinst hcode rfl (by rw [hC.2.2.1]; exact hl.1) rfl hdg hfr (by rw [show 2 * (F0 m pc ls (Value.ref x :: st)).monitorRoom = 0 from rfl, Nat.zero_add]; exact hlo) (kk H locs ls hP hD hS hl)
/-- a constructor's call -/
theorem cd_callI {y : MethodName} {bytes : ByteArray} {maxL index nA mc msC n' x : Nat} {ws : List Cond} {rm : Room} {G : zz_G} {As rest : List Value} {post : (Nat → Nat) → (Nat → va_E) → Prop} (hDG : D = (G.1, G.2.2)) (hC : zz_C p c cc nL s m own) (hN : N0 ≤ s.heap.size) (hK : zc_K G s)
    (hM : Kt_ l y ws rm mc msC (.ref x :: As) N0 G a E n n' post) (cw : CallB R s args own index y bytes maxL none ws rm mc msC nA ∧ y.name = "<init>" ∧ (Cond.instanceMethod y).before args s = true) (hn : As.length = nA) (hst : st = As.reverse ++ .ref x :: rest) (hW : (rest.map fun v => v.category).sum ≤ 8) (hdg : decode cc pc = .ok (.invokespecial index, 3)) (hf : k + mc ≤ R.cells ∧ ms + msC ≤ R.slots)
    (kk : ∀ (a' : Nat → Nat) (E' : Nat → va_E), post a' E' → Cd_ p l e R s m args below meth c Q N0 D nL (k + mc) (ms + msC) (n') (a') (E') (pc + 3) (lv) (rest)) : Cd_ p l e R s m args below meth c Q N0 D nL (k) (ms) (n) (a) (E) (pc) (lv) (st) := by
  subst hDG
  intro H locs ls hP hD hS hl
  refine va_callv (va_runI (As := As) (rest := rest) (Ts := []) ⟨hC.1, hC.2.1, hC.2.2.1, hC.2.2.2, fun _ h => nomatch h⟩ hM cw ⟨zc_blind, fun U hU hW9 => ⟨rfl, by rw [hU]; exact Nat.le_trans hN hS.1, by rw [hU]; exact hP, zc_K.moved hW9.alike hK, hD⟩⟩ rfl hn hl.1 hst (lv_room hW) hdg hf) hS (fun q _ h => h) (fun q h => h) (fun u t H1 locs1 ht hvm hp hB hz1 hk1 hS1 => ?_)
  obtain ⟨hP1, hD1⟩ := hB
  rw [ht] at hP1
  exact kk u.1 u.2 hp H1 locs1 ls hP1 hD1 hS1 hl

theorem cd_return {G : zz_G} {mc msC n' : Nat} {post : (Nat → Nat) → (Nat → va_E) → Prop} (hDG : D = (G.1, G.2.2)) (hC : zz_C p c cc nL s m own) (hr : meth.sig.returnType = none) (hlocks : meth.locks = false) (hdg : decode cc pc = .ok (.return_, 1)) (hk : k ≤ mc) (hm : ms ≤ msC) (hn : n = n') (hp : post a E) : Cd_ p l e R s m args below meth c (MQ below (zc_Q N0 G n' post) args s mc msC (zz_A N0)) N0 D nL k ms n a E pc lv [] := by
  subst hDG
  subst hn
  intro H locs ls hP hD hS hl
  refine W.widen hk hm ?_
  exact W.vret hC.1 hC.2.1 hr (fun t ht hW => ⟨⟨(a, E), rfl, hp, by rw [ht]; exact hP, hD⟩, hS.F ht⟩) hS.2.2 hdg hlocks
theorem cd_sub {lv' : List (Nat × Value)} (ks : List Nat) (h : lv_pick lv ks = lv') (kk : Cd_ p l e R s m args below meth c Q N0 D nL (k) (ms) (n) (a) (E) (pc) (lv') (st)) : Cd_ p l e R s m args below meth c Q N0 D nL (k) (ms) (n) (a) (E) (pc) (lv) (st) := fun H locs ls hP hD hS hl => kk H locs ls hP hD hS (lv_sub hl ks h)
theorem cd_lveq {lv' : List (Nat × Value)} (h : lv = lv') (kk : Cd_ p l e R s m args below meth c Q N0 D nL (k) (ms) (n) (a) (E) (pc) (lv') (st)) : Cd_ p l e R s m args below meth c Q N0 D nL (k) (ms) (n) (a) (E) (pc) (lv) (st) := h ▸ kk
theorem cd_E {E' : Nat → va_E} (h : ∀ j : Nat, j < n → E j = E' j) (kk : Cd_ p l e R s m args below meth c Q N0 D nL (k) (ms) (n) (a) (E') (pc) (lv) (st)) : Cd_ p l e R s m args below meth c Q N0 D nL (k) (ms) (n) (a) (E) (pc) (lv) (st) := fun H locs ls hP hD hS hl => by
  have h9 : zc_W D.2 a E n = zc_W D.2 a E' n := by
    unfold zc_W
    congr 1
    exact List.map_congr_left (fun j hj => by rw [h j (List.mem_range.mp hj)])
  rw [h9] at hP hD
  exact kk H locs ls hP hD hS hl
theorem cd_top {x y : Int} (h : x = y) (kk : Cd_ p l e R s m args below meth c Q N0 D nL (k) (ms) (n) (a) (E) (pc) (lv) (zz_v y :: st)) : Cd_ p l e R s m args below meth c Q N0 D nL (k) (ms) (n) (a) (E) (pc) (lv) (zz_v x :: st) := h ▸ kk
theorem cd_num {k' ms' n' : Nat} (h1 : k = k') (h2 : ms = ms') (h3 : n = n') (kk : Cd_ p l e R s m args below meth c Q N0 D nL (k') (ms') (n') (a) (E) (pc) (lv) (st)) : Cd_ p l e R s m args below meth c Q N0 D nL (k) (ms) (n) (a) (E) (pc) (lv) (st) := by
  subst h1; subst h2; subst h3; exact kk
end ZN
