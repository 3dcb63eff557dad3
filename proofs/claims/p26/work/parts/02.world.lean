/-! whole numbers, places, rows -/
def zz_v (z : Int) : Value := .int (Int32.ofInt z)
def zz_l (z : Int) : Value := .long (Int64.ofInt z)
def zz_R (z : Int) : Prop := -2147483648 ≤ z ∧ z < 2147483648
abbrev zz_S : Type := Nat → Nat → Int
def zz_u (S : zz_S) (k f : Nat) (z : Int) : zz_S := va_up S k (va_up (S k) f z)
def zz_Rg (S : zz_S) : Prop := ∀ i j : Nat, zz_R (S i j)
theorem zz_u_same (S : zz_S) (k f : Nat) (z : Int) : zz_u S k f z k f = z := by simp [zz_u, va_up]
theorem zz_u_ne (S : zz_S) {k f i j : Nat} (z : Int) (h : ¬ (i = k ∧ j = f)) : zz_u S k f z i j = S i j := by
  unfold zz_u va_up
  by_cases hi : i = k
  · subst hi
    have hj : ¬ j = f := fun q => h ⟨rfl, q⟩
    simp [hj]
  · simp [hi]
theorem zz_u_at (S : zz_S) (k f : Nat) (z : Int) (i j : Nat) : zz_u S k f z i j = if i = k ∧ j = f then z else S i j := by
  by_cases h : i = k ∧ j = f
  · obtain ⟨rfl, rfl⟩ := h
    rw [if_pos ⟨rfl, rfl⟩, zz_u_same]
  · rw [if_neg h, zz_u_ne S z h]
theorem zz_Rg_u {S : zz_S} (h : zz_Rg S) {k f : Nat} {z : Int} (hz : zz_R z) : zz_Rg (zz_u S k f z) := by
  intro i j
  rw [zz_u_at]
  by_cases q : i = k ∧ j = f
  · rw [if_pos q]; exact hz
  · rw [if_neg q]; exact h i j
theorem zz_ti {z : Int} (h : zz_R z) : (Int32.ofInt z).toInt = z := by
  obtain ⟨h1, h2⟩ := h
  rw [Int32.toInt_ofInt, show Int32.size = 2 ^ 32 from rfl, Int.bmod_eq_of_le (by omega) (by omega)]
theorem zz_le {x y : Int} (hx : zz_R x) (hy : zz_R y) : Int32.ofInt x ≤ Int32.ofInt y ↔ x ≤ y := by
  rw [Int32.le_iff_toInt_le, zz_ti hx, zz_ti hy]
theorem zz_lt {x y : Int} (hx : zz_R x) (hy : zz_R y) : Int32.ofInt x < Int32.ofInt y ↔ x < y := by
  rw [Int32.lt_iff_toInt_lt, zz_ti hx, zz_ti hy]
theorem zz_eq {x y : Int} (hx : zz_R x) (hy : zz_R y) : Int32.ofInt x = Int32.ofInt y ↔ x = y := by
  rw [← Int32.toInt_inj, zz_ti hx, zz_ti hy]
theorem zz_r0 : zz_R 0 := ⟨by decide, by decide⟩
theorem zz_o0 : (0 : Int32) = Int32.ofInt 0 := rfl
theorem zz_eq0 {x : Int} (hx : zz_R x) : Int32.ofInt x = 0 ↔ x = 0 := by rw [zz_o0, zz_eq hx zz_r0]
theorem zz_lt0 {x : Int} (hx : zz_R x) : Int32.ofInt x < 0 ↔ x < 0 := by rw [zz_o0, zz_lt hx zz_r0]
theorem zz_gt0 {x : Int} (hx : zz_R x) : 0 < Int32.ofInt x ↔ 0 < x := by rw [zz_o0, zz_lt zz_r0 hx]
theorem zz_le0 {x : Int} (hx : zz_R x) : Int32.ofInt x ≤ 0 ↔ x ≤ 0 := by rw [zz_o0, zz_le hx zz_r0]
theorem zz_ge0 {x : Int} (hx : zz_R x) : 0 ≤ Int32.ofInt x ↔ 0 ≤ x := by rw [zz_o0, zz_le zz_r0 hx]
theorem zz_asI (x : Int32) : Int32.ofInt x.toInt = x := Int32.ofInt_toInt x
theorem zz_rng (x : Int32) : zz_R x.toInt := by
  have h1 := Int32.le_toInt x
  have h2 := Int32.toInt_lt x
  constructor <;> omega
theorem zz_cl {i : Int} {j : Nat} (h : i = (j : Int)) (hj : j < 2147483648) : (Int32.ofInt i).toNatClampNeg = j := by
  rw [Int32.toNatClampNeg, zz_ti (by constructor <;> omega), h, Int.toNat_natCast]
theorem zz_in {i : Int} {j n : Nat} (h : i = (j : Int)) (hj : j < n) (hn : n < 2147483648) : vp_in (Int32.ofInt i) n := by
  rw [vp_in_iff, zz_ti (by constructor <;> omega), h]
  constructor <;> omega
/-! kinds of places: (0, class, fields, which are places), (1, kind of array, length, -), (2, kind of array, length, its places), (3, .. of longs) -/
abbrev zz_K : Type := Nat × Nat × Nat × (Nat → Option Nat)
/-- the numbers of the classes, the array classes, and the cells that lie beside a hall -/
abbrev zz_G : Type := va_G × (Nat → ClassId) × va_W
def zz_f (a : Nat → Nat) (row : Nat → Int) (rf : Nat → Option Nat) (f : Nat) : Value := match rf f with
  | some j => .ref (a j)
  | none => zz_v (row f)
def zz_c (G : zz_G) (a : Nat → Nat) (K : zz_K) (row : Nat → Int) : va_E :=
  if K.1 = 0 then .inr (K.2.1, (List.range K.2.2.1).map (zz_f a row K.2.2.2))
  else if K.1 = 1 then .inl (G.2.1 K.2.1, K.2.2.1, .inl (fun i => Int32.ofInt (row i)))
  else if K.1 = 2 then .inl (G.2.1 K.2.1, K.2.2.1, .inr (.inr (.inr (.inr (fun i => (K.2.2.2 i).map a)))))
  else .inl (G.2.1 K.2.1, K.2.2.1, .inr (.inl (fun i => Int64.ofInt (row i))))
def zz_no : Nat → Option Nat := fun _ => none
/-- the places of this claim: a hall's objects 0 to 76 -/
def zz_k : Nat → zz_K := fun k =>
  if k < 13 then match k with
    | 0 => (0, 3, 11, fun f => match f with | 0 => some 1 | 2 => some 2 | 4 => some 3 | 5 => some 7 | 6 => some 11 | 8 => some 12 | _ => none)
    | 1 => (1, 1, 7, zz_no)
    | 2 => (1, 0, 10, zz_no)
    | 3 => (0, 1, 4, fun f => match f with | 0 => some 4 | 1 => some 5 | 2 => some 6 | _ => none)
    | 4 => (1, 0, 512, zz_no)
    | 5 => (1, 0, 512, zz_no)
    | 6 => (1, 0, 512, zz_no)
    | 7 => (0, 1, 4, fun f => match f with | 0 => some 8 | 1 => some 9 | 2 => some 10 | _ => none)
    | 8 => (1, 0, 512, zz_no)
    | 9 => (1, 0, 512, zz_no)
    | 10 => (1, 0, 512, zz_no)
    | 11 => (2, 2, 24, fun i => some (13 + i))
    | _ => (2, 3, 16, fun i => some (61 + i))
  else if k < 37 then (0, 0, 9, fun f => if f = 8 then some (24 + k) else none)
  else if k < 61 then (1, 0, 10, zz_no)
  else if k < 77 then (0, 2, 8, zz_no)
  else (1, 0, 4, zz_no)
def zz_W (G : zz_G) (a : Nat → Nat) (S : zz_S) : va_W := ((List.range 77).map fun k => (a k, zz_c G a (zz_k k) (S k))) ++ G.2.2
abbrev zz_T (G : zz_G) : List (ClassId × FieldType) := [(G.2.1 0, .int), (G.2.1 1, .char), (G.2.1 2, .object RX0), (G.2.1 3, .object RX2)]
def zz_A (N0 : Nat) : Nat → Prop := fun q => N0 ≤ q
theorem zz_act {i : Nat} (h : i < 24) : zz_k (13 + i) = (0, 0, 9, fun f => if f = 8 then some (37 + i) else none) := by
  have h1 : ¬ 13 + i < 13 := by omega
  have h2 : 13 + i < 37 := by omega
  simp only [zz_k, if_neg h1, if_pos h2]
  rw [show 24 + (13 + i) = 37 + i by omega]
theorem zz_plea {i : Nat} (h : i < 24) : zz_k (37 + i) = (1, 0, 10, zz_no) := by
  have h1 : ¬ 37 + i < 13 := by omega
  have h2 : ¬ 37 + i < 37 := by omega
  have h3 : 37 + i < 61 := by omega
  simp only [zz_k, if_neg h1, if_neg h2, if_pos h3]
theorem zz_cmp {i : Nat} (h : i < 16) : zz_k (61 + i) = (0, 2, 8, zz_no) := by
  have h1 : ¬ 61 + i < 13 := by omega
  have h2 : ¬ 61 + i < 37 := by omega
  have h3 : ¬ 61 + i < 61 := by omega
  have h4 : 61 + i < 77 := by omega
  simp only [zz_k, if_neg h1, if_neg h2, if_neg h3, if_pos h4]
theorem zz_W_get {G : zz_G} {a : Nat → Nat} {S : zz_S} {k : Nat} (h : k < 77) : (zz_W G a S)[k]? = some (a k, zz_c G a (zz_k k) (S k)) := by
  unfold zz_W
  rw [List.getElem?_append_left (by rw [List.length_map, List.length_range]; exact h), List.getElem?_map, List.getElem?_range h]
  rfl
theorem zz_W_set {G : zz_G} {a : Nat → Nat} {S S' : zz_S} {k : Nat} {E : va_E} (hk : k < 77) (h1 : zz_c G a (zz_k k) (S' k) = E) (h2 : ∀ j : Nat, j ≠ k → S' j = S j) : (zz_W G a S).set k (a k, E) = zz_W G a S' := by
  unfold zz_W
  rw [List.set_append_left k (a k, E) (by rw [List.length_map, List.length_range]; exact hk)]
  congr 1
  apply List.ext_getElem?
  intro j
  by_cases hj : j = k
  · subst hj
    rw [List.getElem?_set_self (by rw [List.length_map, List.length_range]; exact hk), List.getElem?_map, List.getElem?_range hk, ← h1]
    rfl
  · rw [List.getElem?_set_ne (fun q => hj q.symm)]
    by_cases hn : j < 77
    · rw [List.getElem?_map, List.getElem?_map, List.getElem?_range hn]
      simp only [Option.map_some, h2 j hj]
    · rw [List.getElem?_eq_none (by rw [List.length_map, List.length_range]; omega), List.getElem?_eq_none (by rw [List.length_map, List.length_range]; omega)]
theorem zz_u_row (S : zz_S) (k f : Nat) (z : Int) : zz_u S k f z k = va_up (S k) f z := by
  unfold zz_u
  exact va_up_self _ _ _
theorem zz_u_off (S : zz_S) {k j f : Nat} (z : Int) (h : j ≠ k) : zz_u S k f z j = S j := by
  unfold zz_u
  exact va_up_ne _ _ h
theorem zz_cO {G : zz_G} {a : Nat → Nat} {row : Nat → Int} {ci n : Nat} {rf : Nat → Option Nat} : zz_c G a (0, ci, n, rf) row = .inr (ci, (List.range n).map (zz_f a row rf)) := rfl
theorem zz_cA {G : zz_G} {a : Nat → Nat} {row : Nat → Int} {t n : Nat} {rf : Nat → Option Nat} : zz_c G a (1, t, n, rf) row = .inl (G.2.1 t, n, .inl (fun i => Int32.ofInt (row i))) := rfl
theorem zz_cR {G : zz_G} {a : Nat → Nat} {row : Nat → Int} {t n : Nat} {rf : Nat → Option Nat} : zz_c G a (2, t, n, rf) row = .inl (G.2.1 t, n, .inr (.inr (.inr (.inr (fun i => (rf i).map a))))) := rfl
theorem zz_cL {G : zz_G} {a : Nat → Nat} {row : Nat → Int} {t n : Nat} {rf : Nat → Option Nat} : zz_c G a (3, t, n, rf) row = .inl (G.2.1 t, n, .inr (.inl (fun i => Int64.ofInt (row i)))) := rfl
theorem zz_fat {a : Nat → Nat} {row : Nat → Int} {rf : Nat → Option Nat} {f n : Nat} (h : f < n) : ((List.range n).map (zz_f a row rf))[f]? = some (zz_f a row rf f) := by
  rw [List.getElem?_map, List.getElem?_range h]
  rfl
theorem zz_fset {a : Nat → Nat} {row : Nat → Int} {rf : Nat → Option Nat} {f n : Nat} {z : Int} (hf : rf f = none) (h : f < n) : ((List.range n).map (zz_f a row rf)).set f (zz_v z) = (List.range n).map (zz_f a (va_up row f z) rf) := by
  apply List.ext_getElem?
  intro j
  by_cases hj : j = f
  · subst hj
    rw [List.getElem?_set_self (by rw [List.length_map, List.length_range]; exact h), zz_fat h]
    simp only [zz_f, hf, va_up_self]
  · rw [List.getElem?_set_ne (fun q => hj q.symm)]
    by_cases hn : j < n
    · rw [zz_fat hn, zz_fat hn]
      simp only [zz_f, va_up_ne _ _ hj]
    · rw [List.getElem?_eq_none (by rw [List.length_map, List.length_range]; omega), List.getElem?_eq_none (by rw [List.length_map, List.length_range]; omega)]
theorem zz_uA {row : Nat → Int} {j : Nat} {z : Int} : upd (fun i => Int32.ofInt (row i)) j (Int32.ofInt z) = fun i => Int32.ofInt (va_up row j z i) := by
  funext i
  simp only [upd, va_up]
  by_cases h : i = j
  · rw [if_pos h, if_pos h]
  · rw [if_neg h, if_neg h]
theorem zz_uL {row : Nat → Int} {j : Nat} {z : Int} : vp_updL (fun i => Int64.ofInt (row i)) j (Int64.ofInt z) = fun i => Int64.ofInt (va_up row j z i) := by
  funext i
  simp only [vp_updL, va_up]
  by_cases h : i = j
  · rw [if_pos h, if_pos h]
  · rw [if_neg h, if_neg h]

/-- the judgement: at pc, with the listed locals and the stack, in the world S; k of the rooms for one thrown object are used -/
def Gd_ (p : Program) (l : Launch) (e : Env) (R : Room) (s : State) (m : MethodId) (args : Array Value) (below : List Frame) (meth : Method) (c : Code) (Q : State → Prop) (N0 : Nat) (G : zz_G) (a : Nat → Nat) (nL k : Nat) (S : zz_S) (pc : Nat) (lv : List (Nat × Value)) (st : List Value) : Prop :=
  zz_Rg S → ∀ (H : Heap) (locs : List Loc) (ls : Array Slot), va_P G.1 vwCl (zz_W G a S) H → va_D (zz_A N0) (zz_W G a S) → va_S (zz_A N0) s.heap H locs → lv_has ls nL lv → W p l e R s m args below meth c H locs k (6 * k) Q (F0 m pc ls st)
/-- an exception of class E is thrown at pc -/
def Gx_ (p : Program) (l : Launch) (e : Env) (R : Room) (s : State) (m : MethodId) (args : Array Value) (below : List Frame) (meth : Method) (c : Code) (Q : State → Prop) (N0 : Nat) (G : zz_G) (a : Nat → Nat) (nL k : Nat) (S : zz_S) (pc : Nat) (lv : List (Nat × Value)) (st : List Value) (E : String) : Prop :=
  zz_Rg S → ∀ (H : Heap) (locs : List Loc) (ls : Array Slot) (q9 : Addr) (ce : Cell), va_P G.1 vwCl (zz_W G a S) H → va_D (zz_A N0) (zz_W G a S) → va_S (zz_A N0) s.heap H locs → lv_has ls nL lv → H[q9]? = some ce → ce.vm = .none → s.vm.findClass E = some ce.cls → vx_W p l e R s m args below meth c H locs k (6 * k) Q (F0 m pc ls st) q9
abbrev zz_C (p : Program) (c : Code) (cc : ByteArray) (nL : Nat) (s : State) (m : MethodId) (own : String) : Prop := p.tables.exec = Jvm.exec ∧ c.code = cc ∧ c.maxLocals = nL ∧ s.vm.findClass own = some m.cls

section ZG
variable {p : Program} {l : Launch} {e : Env} {R : Room} {s : State} {m : MethodId} {args : Array Value} {below : List Frame} {meth : Method} {c : Code} {Q : State → Prop} {N0 : Nat} {G : zz_G} {a : Nat → Nat} {nL k : Nat} {S : zz_S} {pc : Nat} {lv : List (Nat × Value)} {st : List Value} {cc : ByteArray} {own : String}

theorem gd_sub {lv' : List (Nat × Value)} (ks : List Nat) (h : lv_pick lv ks = lv') (kk : Gd_ p l e R s m args below meth c Q N0 G a nL (k) (S) (pc) (lv') (st)) : Gd_ p l e R s m args below meth c Q N0 G a nL (k) (S) (pc) (lv) (st) := fun hR H locs ls hP hD hS hl => kk hR H locs ls hP hD hS (lv_sub hl ks h)
theorem gd_top {x y : Int} (h : x = y) (kk : Gd_ p l e R s m args below meth c Q N0 G a nL (k) (S) (pc) (lv) (zz_v y :: st)) : Gd_ p l e R s m args below meth c Q N0 G a nL (k) (S) (pc) (lv) (zz_v x :: st) := h ▸ kk
theorem gd_wide {k' : Nat} (h : k ≤ k') (kk : Gd_ p l e R s m args below meth c Q N0 G a nL (k') (S) (pc) (lv) (st)) : Gd_ p l e R s m args below meth c Q N0 G a nL (k) (S) (pc) (lv) (st) := fun hR H locs ls hP hD hS hl => W.widen h (by omega) (kk hR H locs ls hP hD hS hl)
theorem gd_eq {S' : zz_S} (h : S' = S) (kk : Gd_ p l e R s m args below meth c Q N0 G a nL (k) (S') (pc) (lv) (st)) : Gd_ p l e R s m args below meth c Q N0 G a nL (k) (S) (pc) (lv) (st) := h ▸ kk
theorem gd_rg (kk : zz_Rg S → Gd_ p l e R s m args below meth c Q N0 G a nL (k) (S) (pc) (lv) (st)) : Gd_ p l e R s m args below meth c Q N0 G a nL (k) (S) (pc) (lv) (st) := fun hR => kk hR hR

theorem gd_iload_n (hC : zz_C p c cc nL s m own) {q : Fin 4} {i j : Nat} {z : Int} (hdg : decode cc pc = .ok (.iload_n q, 1)) (hi : (q : Nat) = i) (hj : lv[j]? = some (i, zz_v z)) (kk : Gd_ p l e R s m args below meth c Q N0 G a nL (k) (S) (pc + 1) (lv) (zz_v z :: st)) : Gd_ p l e R s m args below meth c Q N0 G a nL (k) (S) (pc) (lv) (st) := fun hR H locs ls hP hD hS hl => lv_iload_n hC.1 hC.2.1 hdg hi (lv_at hl j hj) (kk hR H locs ls hP hD hS hl)
theorem gd_iload (hC : zz_C p c cc nL s m own) {i j : Nat} {z : Int} (hdg : decode cc pc = .ok (.iload i, 2)) (hj : lv[j]? = some (i, zz_v z)) (kk : Gd_ p l e R s m args below meth c Q N0 G a nL (k) (S) (pc + 2) (lv) (zz_v z :: st)) : Gd_ p l e R s m args below meth c Q N0 G a nL (k) (S) (pc) (lv) (st) := fun hR H locs ls hP hD hS hl => lv_iload hC.1 hC.2.1 hdg (lv_at hl j hj) (kk hR H locs ls hP hD hS hl)
theorem gd_aload_n (hC : zz_C p c cc nL s m own) {q : Fin 4} {i j : Nat} {x : Nat} (hdg : decode cc pc = .ok (.aload_n q, 1)) (hi : (q : Nat) = i) (hj : lv[j]? = some (i, .ref x)) (kk : Gd_ p l e R s m args below meth c Q N0 G a nL (k) (S) (pc + 1) (lv) (.ref x :: st)) : Gd_ p l e R s m args below meth c Q N0 G a nL (k) (S) (pc) (lv) (st) := fun hR H locs ls hP hD hS hl => lv_aload_n hC.1 hC.2.1 hdg hi (lv_at hl j hj) (kk hR H locs ls hP hD hS hl)
theorem gd_aload (hC : zz_C p c cc nL s m own) {i j : Nat} {x : Nat} (hdg : decode cc pc = .ok (.aload i, 2)) (hj : lv[j]? = some (i, .ref x)) (kk : Gd_ p l e R s m args below meth c Q N0 G a nL (k) (S) (pc + 2) (lv) (.ref x :: st)) : Gd_ p l e R s m args below meth c Q N0 G a nL (k) (S) (pc) (lv) (st) := fun hR H locs ls hP hD hS hl => lv_aload hC.1 hC.2.1 hdg (lv_at hl j hj) (kk hR H locs ls hP hD hS hl)
theorem gd_istore_n (hC : zz_C p c cc nL s m own) {q : Fin 4} {i : Nat} {z : Int} {lv' : List (Nat × Value)} (hdg : decode cc pc = .ok (.istore_n q, 1)) (hi : (q : Nat) = i) (hn : i < nL) (hl' : (i, zz_v z) :: lv.filter (fun q => !(q.1 == i) && !(q.1 + 1 == i && q.2.category == 2)) = lv') (kk : Gd_ p l e R s m args below meth c Q N0 G a nL (k) (S) (pc + 1) (lv') (st)) : Gd_ p l e R s m args below meth c Q N0 G a nL (k) (S) (pc) (lv) (zz_v z :: st) := fun hR H locs ls hP hD hS hl => lv_istore_n hC.1 hC.2.1 hdg hi hl hn hl' (fun ls' hl2 => kk hR H locs ls' hP hD hS hl2)
theorem gd_istore (hC : zz_C p c cc nL s m own) {i : Nat} {z : Int} {lv' : List (Nat × Value)} (hdg : decode cc pc = .ok (.istore i, 2)) (hn : i < nL) (hl' : (i, zz_v z) :: lv.filter (fun q => !(q.1 == i) && !(q.1 + 1 == i && q.2.category == 2)) = lv') (kk : Gd_ p l e R s m args below meth c Q N0 G a nL (k) (S) (pc + 2) (lv') (st)) : Gd_ p l e R s m args below meth c Q N0 G a nL (k) (S) (pc) (lv) (zz_v z :: st) := fun hR H locs ls hP hD hS hl => lv_istore hC.1 hC.2.1 hdg hl hn hl' (fun ls' hl2 => kk hR H locs ls' hP hD hS hl2)
theorem gd_astore_n (hC : zz_C p c cc nL s m own) {q : Fin 4} {i : Nat} {x : Nat} {lv' : List (Nat × Value)} (hdg : decode cc pc = .ok (.astore_n q, 1)) (hi : (q : Nat) = i) (hn : i < nL) (hl' : (i, .ref x) :: lv.filter (fun q => !(q.1 == i) && !(q.1 + 1 == i && q.2.category == 2)) = lv') (kk : Gd_ p l e R s m args below meth c Q N0 G a nL (k) (S) (pc + 1) (lv') (st)) : Gd_ p l e R s m args below meth c Q N0 G a nL (k) (S) (pc) (lv) (.ref x :: st) := fun hR H locs ls hP hD hS hl => lv_astore_n hC.1 hC.2.1 hdg hi hl hn hl' (fun ls' hl2 => kk hR H locs ls' hP hD hS hl2)
theorem gd_astore (hC : zz_C p c cc nL s m own) {i : Nat} {x : Nat} {lv' : List (Nat × Value)} (hdg : decode cc pc = .ok (.astore i, 2)) (hn : i < nL) (hl' : (i, .ref x) :: lv.filter (fun q => !(q.1 == i) && !(q.1 + 1 == i && q.2.category == 2)) = lv') (kk : Gd_ p l e R s m args below meth c Q N0 G a nL (k) (S) (pc + 2) (lv') (st)) : Gd_ p l e R s m args below meth c Q N0 G a nL (k) (S) (pc) (lv) (.ref x :: st) := fun hR H locs ls hP hD hS hl => lv_astore hC.1 hC.2.1 hdg hl hn hl' (fun ls' hl2 => kk hR H locs ls' hP hD hS hl2)
theorem gd_iinc (hC : zz_C p c cc nL s m own) {i j : Nat} {n x y : Int} {lv' : List (Nat × Value)} (hdg : decode cc pc = .ok (.iinc i n, 3)) (hj : lv[j]? = some (i, zz_v x)) (hy : x + n = y) (hn : i < nL) (hl' : (i, zz_v y) :: lv.filter (fun q => !(q.1 == i) && !(q.1 + 1 == i && q.2.category == 2)) = lv') (kk : Gd_ p l e R s m args below meth c Q N0 G a nL (k) (S) (pc + 3) (lv') (st)) : Gd_ p l e R s m args below meth c Q N0 G a nL (k) (S) (pc) (lv) (st) := fun hR H locs ls hP hD hS hl => lv_iinc (v := Int32.ofInt y) hC.1 hC.2.1 hdg hl hj (by rw [← hy, Int32.ofInt_add]) hn hl' (fun ls' hl2 => kk hR H locs ls' hP hD hS hl2)
theorem gd_iconst (hC : zz_C p c cc nL s m own) {n : Int} (hdg : decode cc pc = .ok (.iconst n, 1)) (kk : Gd_ p l e R s m args below meth c Q N0 G a nL (k) (S) (pc + 1) (lv) (zz_v n :: st)) : Gd_ p l e R s m args below meth c Q N0 G a nL (k) (S) (pc) (lv) (st) := fun hR H locs ls hP hD hS hl => lv_iconst hC.1 hC.2.1 hdg rfl (kk hR H locs ls hP hD hS hl)
theorem gd_bipush (hC : zz_C p c cc nL s m own) {n : Int} (hdg : decode cc pc = .ok (.bipush n, 2)) (hv : (Int8.ofInt n).toInt32 = Int32.ofInt n) (kk : Gd_ p l e R s m args below meth c Q N0 G a nL (k) (S) (pc + 2) (lv) (zz_v n :: st)) : Gd_ p l e R s m args below meth c Q N0 G a nL (k) (S) (pc) (lv) (st) := fun hR H locs ls hP hD hS hl => lv_bipush hC.1 hC.2.1 hdg hv (kk hR H locs ls hP hD hS hl)
theorem gd_sipush (hC : zz_C p c cc nL s m own) {n : Int} (hdg : decode cc pc = .ok (.sipush n, 3)) (hv : (Int16.ofInt n).toInt32 = Int32.ofInt n) (kk : Gd_ p l e R s m args below meth c Q N0 G a nL (k) (S) (pc + 3) (lv) (zz_v n :: st)) : Gd_ p l e R s m args below meth c Q N0 G a nL (k) (S) (pc) (lv) (st) := fun hR H locs ls hP hD hS hl => lv_sipush hC.1 hC.2.1 hdg hv (kk hR H locs ls hP hD hS hl)
theorem gd_ldc (hC : zz_C p c cc nL s m own) {n : Int} {index : Nat} (hw : (Cond.constant own index (Int32.ofInt n)).before args s = true) (hdg : decode cc pc = .ok (.ldc index, 2)) (kk : Gd_ p l e R s m args below meth c Q N0 G a nL (k) (S) (pc + 2) (lv) (zz_v n :: st)) : Gd_ p l e R s m args below meth c Q N0 G a nL (k) (S) (pc) (lv) (st) := fun hR H locs ls hP hD hS hl => lv_ldc hC.1 hC.2.1 hC.2.2.2 hw hdg (kk hR H locs ls hP hD hS hl)
theorem gd_ldcw (hC : zz_C p c cc nL s m own) {n : Int} {index : Nat} (hw : (Cond.constant own index (Int32.ofInt n)).before args s = true) (hdg : decode cc pc = .ok (.ldc_w index, 3)) (kk : Gd_ p l e R s m args below meth c Q N0 G a nL (k) (S) (pc + 3) (lv) (zz_v n :: st)) : Gd_ p l e R s m args below meth c Q N0 G a nL (k) (S) (pc) (lv) (st) := fun hR H locs ls hP hD hS hl => lv_ldcw hC.1 hC.2.1 hC.2.2.2 hw hdg (kk hR H locs ls hP hD hS hl)
theorem gd_lconst (hC : zz_C p c cc nL s m own) {n : Fin 2} {z : Int} (hdg : decode cc pc = .ok (.lconst n, 1)) (hv : Int64.ofNat (n : Nat) = Int64.ofInt z) (kk : Gd_ p l e R s m args below meth c Q N0 G a nL (k) (S) (pc + 1) (lv) (zz_l z :: st)) : Gd_ p l e R s m args below meth c Q N0 G a nL (k) (S) (pc) (lv) (st) := fun hR H locs ls hP hD hS hl => lv_lconst hC.1 hC.2.1 hdg hv (kk hR H locs ls hP hD hS hl)
theorem gd_dup (hC : zz_C p c cc nL s m own) {v : Value} (hdg : decode cc pc = .ok (.dup, 1)) (hv : v.category = 1) (kk : Gd_ p l e R s m args below meth c Q N0 G a nL (k) (S) (pc + 1) (lv) (v :: v :: st)) : Gd_ p l e R s m args below meth c Q N0 G a nL (k) (S) (pc) (lv) (v :: st) := fun hR H locs ls hP hD hS hl => lv_dup hC.1 hC.2.1 hdg hv (kk hR H locs ls hP hD hS hl)
theorem gd_dup2 (hC : zz_C p c cc nL s m own) {v u : Value} (hdg : decode cc pc = .ok (.dup2, 1)) (hv : v.category = 1) (hu : u.category = 1) (kk : Gd_ p l e R s m args below meth c Q N0 G a nL (k) (S) (pc + 1) (lv) (v :: u :: v :: u :: st)) : Gd_ p l e R s m args below meth c Q N0 G a nL (k) (S) (pc) (lv) (v :: u :: st) := fun hR H locs ls hP hD hS hl => lv_dup2_11 hC.1 hC.2.1 hdg hv hu (kk hR H locs ls hP hD hS hl)
theorem gd_dup_x1 (hC : zz_C p c cc nL s m own) {v u : Value} (hdg : decode cc pc = .ok (.dup_x1, 1)) (hv : v.category = 1) (hu : u.category = 1) (kk : Gd_ p l e R s m args below meth c Q N0 G a nL (k) (S) (pc + 1) (lv) (v :: u :: v :: st)) : Gd_ p l e R s m args below meth c Q N0 G a nL (k) (S) (pc) (lv) (v :: u :: st) := fun hR H locs ls hP hD hS hl => lv_dup_x1 hC.1 hC.2.1 hdg hv hu (kk hR H locs ls hP hD hS hl)
theorem gd_pop (hC : zz_C p c cc nL s m own) {v : Value} (hdg : decode cc pc = .ok (.pop, 1)) (hv : v.category = 1) (kk : Gd_ p l e R s m args below meth c Q N0 G a nL (k) (S) (pc + 1) (lv) (st)) : Gd_ p l e R s m args below meth c Q N0 G a nL (k) (S) (pc) (lv) (v :: st) := fun hR H locs ls hP hD hS hl => lv_pop hC.1 hC.2.1 hdg hv (kk hR H locs ls hP hD hS hl)
theorem gd_goto (hC : zz_C p c cc nL s m own) {off : Int} {tgt : Nat} (hdg : decode cc pc = .ok (.goto off, 3)) (ht : (pc : Int) + off = (tgt : Int)) (kk : Gd_ p l e R s m args below meth c Q N0 G a nL (k) (S) (tgt) (lv) (st)) : Gd_ p l e R s m args below meth c Q N0 G a nL (k) (S) (pc) (lv) (st) := fun hR H locs ls hP hD hS hl => lv_goto hC.1 hC.2.1 hdg ht (kk hR H locs ls hP hD hS hl)
theorem gd_iadd (hC : zz_C p c cc nL s m own) {x y : Int} (hdg : decode cc pc = .ok (.iadd, 1)) (kk : Gd_ p l e R s m args below meth c Q N0 G a nL (k) (S) (pc + 1) (lv) (zz_v (x + y) :: st)) : Gd_ p l e R s m args below meth c Q N0 G a nL (k) (S) (pc) (lv) (zz_v y :: zz_v x :: st) := fun hR H locs ls hP hD hS hl => lv_iadd hC.1 hC.2.1 hdg (by rw [← Int32.ofInt_add]; exact kk hR H locs ls hP hD hS hl)
theorem gd_isub (hC : zz_C p c cc nL s m own) {x y : Int} (hdg : decode cc pc = .ok (.isub, 1)) (kk : Gd_ p l e R s m args below meth c Q N0 G a nL (k) (S) (pc + 1) (lv) (zz_v (x - y) :: st)) : Gd_ p l e R s m args below meth c Q N0 G a nL (k) (S) (pc) (lv) (zz_v y :: zz_v x :: st) := fun hR H locs ls hP hD hS hl => lv_isub hC.1 hC.2.1 hdg (by rw [← Int32.ofInt_sub]; exact kk hR H locs ls hP hD hS hl)
theorem gd_imul (hC : zz_C p c cc nL s m own) {x y : Int} (hdg : decode cc pc = .ok (.imul, 1)) (kk : Gd_ p l e R s m args below meth c Q N0 G a nL (k) (S) (pc + 1) (lv) (zz_v (x * y) :: st)) : Gd_ p l e R s m args below meth c Q N0 G a nL (k) (S) (pc) (lv) (zz_v y :: zz_v x :: st) := fun hR H locs ls hP hD hS hl => lv_imul hC.1 hC.2.1 hdg (by rw [← Int32.ofInt_mul]; exact kk hR H locs ls hP hD hS hl)
theorem gd_idiv (hC : zz_C p c cc nL s m own) {x y : Int} (hdg : decode cc pc = .ok (.idiv, 1)) (hx : 0 ≤ x ∧ x < 2147483648) (hy : 0 < y ∧ y < 2147483648) (kk : Gd_ p l e R s m args below meth c Q N0 G a nL (k) (S) (pc + 1) (lv) (zz_v (x / y) :: st)) : Gd_ p l e R s m args below meth c Q N0 G a nL (k) (S) (pc) (lv) (zz_v y :: zz_v x :: st) := fun hR H locs ls hP hD hS hl => lv_idiv hC.1 hC.2.1 hdg (fun q => by have q2 := (zz_eq0 (show zz_R y from ⟨by omega, by omega⟩)).mp q; omega) (by
  have hX : zz_R x := ⟨by omega, by omega⟩
  have hY : zz_R y := ⟨by omega, by omega⟩
  have h9 : Int32.ofInt x / Int32.ofInt y = Int32.ofInt (x / y) := by
    rw [← Int32.toInt_inj, Int32.toInt_div_of_ne_right _ _ (fun q => by have q2 := congrArg Int32.toInt q; rw [zz_ti hY, show (-1 : Int32).toInt = -1 from rfl] at q2; omega), zz_ti hX, zz_ti hY, Int.tdiv_eq_ediv_of_nonneg hx.1, zz_ti]
    have d1 : 0 ≤ x / y := Int.ediv_nonneg hx.1 (by omega)
    have d2 : x / y ≤ x := Int.ediv_le_self _ hx.1
    exact ⟨by omega, by omega⟩
  rw [h9]
  exact kk hR H locs ls hP hD hS hl)

theorem gd_icmp_eq (hC : zz_C p c cc nL s m own) {x y off : Int} {tgt : Nat} (hdg : decode cc pc = .ok (.if_icmp .eq off, 3)) (ht : (pc : Int) + off = (tgt : Int)) (hx : zz_R x) (hy : zz_R y) (kt : x = y → Gd_ p l e R s m args below meth c Q N0 G a nL (k) (S) (tgt) (lv) (st)) (kf : ¬ x = y → Gd_ p l e R s m args below meth c Q N0 G a nL (k) (S) (pc + 3) (lv) (st)) : Gd_ p l e R s m args below meth c Q N0 G a nL (k) (S) (pc) (lv) (zz_v y :: zz_v x :: st) := fun hR H locs ls hP hD hS hl => lv_icmp_eq hC.1 hC.2.1 hdg ht (fun q => kt ((zz_eq hx hy).mp q) hR H locs ls hP hD hS hl) (fun q => kf (fun z => q ((zz_eq hx hy).mpr z)) hR H locs ls hP hD hS hl)
theorem gd_icmp_ne (hC : zz_C p c cc nL s m own) {x y off : Int} {tgt : Nat} (hdg : decode cc pc = .ok (.if_icmp .ne off, 3)) (ht : (pc : Int) + off = (tgt : Int)) (hx : zz_R x) (hy : zz_R y) (kt : ¬ x = y → Gd_ p l e R s m args below meth c Q N0 G a nL (k) (S) (tgt) (lv) (st)) (kf : x = y → Gd_ p l e R s m args below meth c Q N0 G a nL (k) (S) (pc + 3) (lv) (st)) : Gd_ p l e R s m args below meth c Q N0 G a nL (k) (S) (pc) (lv) (zz_v y :: zz_v x :: st) := fun hR H locs ls hP hD hS hl => lv_icmp_ne hC.1 hC.2.1 hdg ht (fun q => kt (fun z => q ((zz_eq hx hy).mpr z)) hR H locs ls hP hD hS hl) (fun q => kf ((zz_eq hx hy).mp q) hR H locs ls hP hD hS hl)
theorem gd_icmp_lt (hC : zz_C p c cc nL s m own) {x y off : Int} {tgt : Nat} (hdg : decode cc pc = .ok (.if_icmp .lt off, 3)) (ht : (pc : Int) + off = (tgt : Int)) (hx : zz_R x) (hy : zz_R y) (kt : x < y → Gd_ p l e R s m args below meth c Q N0 G a nL (k) (S) (tgt) (lv) (st)) (kf : ¬ x < y → Gd_ p l e R s m args below meth c Q N0 G a nL (k) (S) (pc + 3) (lv) (st)) : Gd_ p l e R s m args below meth c Q N0 G a nL (k) (S) (pc) (lv) (zz_v y :: zz_v x :: st) := fun hR H locs ls hP hD hS hl => lv_icmp_lt hC.1 hC.2.1 hdg ht (fun q => kt ((zz_lt hx hy).mp q) hR H locs ls hP hD hS hl) (fun q => kf (fun z => q ((zz_lt hx hy).mpr z)) hR H locs ls hP hD hS hl)
theorem gd_icmp_le (hC : zz_C p c cc nL s m own) {x y off : Int} {tgt : Nat} (hdg : decode cc pc = .ok (.if_icmp .le off, 3)) (ht : (pc : Int) + off = (tgt : Int)) (hx : zz_R x) (hy : zz_R y) (kt : x ≤ y → Gd_ p l e R s m args below meth c Q N0 G a nL (k) (S) (tgt) (lv) (st)) (kf : ¬ x ≤ y → Gd_ p l e R s m args below meth c Q N0 G a nL (k) (S) (pc + 3) (lv) (st)) : Gd_ p l e R s m args below meth c Q N0 G a nL (k) (S) (pc) (lv) (zz_v y :: zz_v x :: st) := fun hR H locs ls hP hD hS hl => lv_icmp_le hC.1 hC.2.1 hdg ht (fun q => kt ((zz_le hx hy).mp q) hR H locs ls hP hD hS hl) (fun q => kf (fun z => q ((zz_le hx hy).mpr z)) hR H locs ls hP hD hS hl)
theorem gd_icmp_gt (hC : zz_C p c cc nL s m own) {x y off : Int} {tgt : Nat} (hdg : decode cc pc = .ok (.if_icmp .gt off, 3)) (ht : (pc : Int) + off = (tgt : Int)) (hx : zz_R x) (hy : zz_R y) (kt : y < x → Gd_ p l e R s m args below meth c Q N0 G a nL (k) (S) (tgt) (lv) (st)) (kf : ¬ y < x → Gd_ p l e R s m args below meth c Q N0 G a nL (k) (S) (pc + 3) (lv) (st)) : Gd_ p l e R s m args below meth c Q N0 G a nL (k) (S) (pc) (lv) (zz_v y :: zz_v x :: st) := fun hR H locs ls hP hD hS hl => lv_icmp_gt hC.1 hC.2.1 hdg ht (fun q => kt ((zz_lt hy hx).mp q) hR H locs ls hP hD hS hl) (fun q => kf (fun z => q ((zz_lt hy hx).mpr z)) hR H locs ls hP hD hS hl)
theorem gd_icmp_ge (hC : zz_C p c cc nL s m own) {x y off : Int} {tgt : Nat} (hdg : decode cc pc = .ok (.if_icmp .ge off, 3)) (ht : (pc : Int) + off = (tgt : Int)) (hx : zz_R x) (hy : zz_R y) (kt : y ≤ x → Gd_ p l e R s m args below meth c Q N0 G a nL (k) (S) (tgt) (lv) (st)) (kf : ¬ y ≤ x → Gd_ p l e R s m args below meth c Q N0 G a nL (k) (S) (pc + 3) (lv) (st)) : Gd_ p l e R s m args below meth c Q N0 G a nL (k) (S) (pc) (lv) (zz_v y :: zz_v x :: st) := fun hR H locs ls hP hD hS hl => lv_icmp_ge hC.1 hC.2.1 hdg ht (fun q => kt ((zz_le hy hx).mp q) hR H locs ls hP hD hS hl) (fun q => kf (fun z => q ((zz_le hy hx).mpr z)) hR H locs ls hP hD hS hl)
theorem gd_if_eq (hC : zz_C p c cc nL s m own) {x off : Int} {tgt : Nat} (hdg : decode cc pc = .ok (.ifCond .eq off, 3)) (ht : (pc : Int) + off = (tgt : Int)) (hx : zz_R x) (kt : x = 0 → Gd_ p l e R s m args below meth c Q N0 G a nL (k) (S) (tgt) (lv) (st)) (kf : ¬ x = 0 → Gd_ p l e R s m args below meth c Q N0 G a nL (k) (S) (pc + 3) (lv) (st)) : Gd_ p l e R s m args below meth c Q N0 G a nL (k) (S) (pc) (lv) (zz_v x :: st) := fun hR H locs ls hP hD hS hl => lv_if_eq hC.1 hC.2.1 hdg ht (fun q => kt ((zz_eq0 hx).mp q) hR H locs ls hP hD hS hl) (fun q => kf (fun z => q ((zz_eq0 hx).mpr z)) hR H locs ls hP hD hS hl)
theorem gd_if_ne (hC : zz_C p c cc nL s m own) {x off : Int} {tgt : Nat} (hdg : decode cc pc = .ok (.ifCond .ne off, 3)) (ht : (pc : Int) + off = (tgt : Int)) (hx : zz_R x) (kt : ¬ x = 0 → Gd_ p l e R s m args below meth c Q N0 G a nL (k) (S) (tgt) (lv) (st)) (kf : x = 0 → Gd_ p l e R s m args below meth c Q N0 G a nL (k) (S) (pc + 3) (lv) (st)) : Gd_ p l e R s m args below meth c Q N0 G a nL (k) (S) (pc) (lv) (zz_v x :: st) := fun hR H locs ls hP hD hS hl => lv_if_ne hC.1 hC.2.1 hdg ht (fun q => kt (fun z => q ((zz_eq0 hx).mpr z)) hR H locs ls hP hD hS hl) (fun q => kf ((zz_eq0 hx).mp q) hR H locs ls hP hD hS hl)
theorem gd_if_lt (hC : zz_C p c cc nL s m own) {x off : Int} {tgt : Nat} (hdg : decode cc pc = .ok (.ifCond .lt off, 3)) (ht : (pc : Int) + off = (tgt : Int)) (hx : zz_R x) (kt : x < 0 → Gd_ p l e R s m args below meth c Q N0 G a nL (k) (S) (tgt) (lv) (st)) (kf : ¬ x < 0 → Gd_ p l e R s m args below meth c Q N0 G a nL (k) (S) (pc + 3) (lv) (st)) : Gd_ p l e R s m args below meth c Q N0 G a nL (k) (S) (pc) (lv) (zz_v x :: st) := fun hR H locs ls hP hD hS hl => lv_if_lt hC.1 hC.2.1 hdg ht (fun q => kt ((zz_lt0 hx).mp q) hR H locs ls hP hD hS hl) (fun q => kf (fun z => q ((zz_lt0 hx).mpr z)) hR H locs ls hP hD hS hl)
theorem gd_if_le (hC : zz_C p c cc nL s m own) {x off : Int} {tgt : Nat} (hdg : decode cc pc = .ok (.ifCond .le off, 3)) (ht : (pc : Int) + off = (tgt : Int)) (hx : zz_R x) (kt : x ≤ 0 → Gd_ p l e R s m args below meth c Q N0 G a nL (k) (S) (tgt) (lv) (st)) (kf : ¬ x ≤ 0 → Gd_ p l e R s m args below meth c Q N0 G a nL (k) (S) (pc + 3) (lv) (st)) : Gd_ p l e R s m args below meth c Q N0 G a nL (k) (S) (pc) (lv) (zz_v x :: st) := fun hR H locs ls hP hD hS hl => lv_if_le hC.1 hC.2.1 hdg ht (fun q => kt ((zz_le0 hx).mp q) hR H locs ls hP hD hS hl) (fun q => kf (fun z => q ((zz_le0 hx).mpr z)) hR H locs ls hP hD hS hl)
theorem gd_if_gt (hC : zz_C p c cc nL s m own) {x off : Int} {tgt : Nat} (hdg : decode cc pc = .ok (.ifCond .gt off, 3)) (ht : (pc : Int) + off = (tgt : Int)) (hx : zz_R x) (kt : 0 < x → Gd_ p l e R s m args below meth c Q N0 G a nL (k) (S) (tgt) (lv) (st)) (kf : ¬ 0 < x → Gd_ p l e R s m args below meth c Q N0 G a nL (k) (S) (pc + 3) (lv) (st)) : Gd_ p l e R s m args below meth c Q N0 G a nL (k) (S) (pc) (lv) (zz_v x :: st) := fun hR H locs ls hP hD hS hl => lv_if_gt hC.1 hC.2.1 hdg ht (fun q => kt ((zz_gt0 hx).mp q) hR H locs ls hP hD hS hl) (fun q => kf (fun z => q ((zz_gt0 hx).mpr z)) hR H locs ls hP hD hS hl)
theorem gd_if_ge (hC : zz_C p c cc nL s m own) {x off : Int} {tgt : Nat} (hdg : decode cc pc = .ok (.ifCond .ge off, 3)) (ht : (pc : Int) + off = (tgt : Int)) (hx : zz_R x) (kt : 0 ≤ x → Gd_ p l e R s m args below meth c Q N0 G a nL (k) (S) (tgt) (lv) (st)) (kf : ¬ 0 ≤ x → Gd_ p l e R s m args below meth c Q N0 G a nL (k) (S) (pc + 3) (lv) (st)) : Gd_ p l e R s m args below meth c Q N0 G a nL (k) (S) (pc) (lv) (zz_v x :: st) := fun hR H locs ls hP hD hS hl => lv_if_ge hC.1 hC.2.1 hdg ht (fun q => kt ((zz_ge0 hx).mp q) hR H locs ls hP hD hS hl) (fun q => kf (fun z => q ((zz_ge0 hx).mpr z)) hR H locs ls hP hD hS hl)
theorem gd_tableIn (hC : zz_C p c cc nL s m own) {dflt lo hi : Int} {offs : Array Int} {len : Nat} {x off : Int} {tgt : Nat} (hdg : decode cc pc = .ok (.tableswitch dflt lo hi offs, len)) (v : Int) (hv : x = v) (hr : zz_R v) (h1 : ¬ v < lo) (h2 : ¬ hi < v) (ho : offs[(v - lo).toNat]? = some off) (ht : (pc : Int) + off = (tgt : Int)) (kk : Gd_ p l e R s m args below meth c Q N0 G a nL (k) (S) (tgt) (lv) (st)) : Gd_ p l e R s m args below meth c Q N0 G a nL (k) (S) (pc) (lv) (zz_v x :: st) := fun hR H locs ls hP hD hS hl => by
  subst hv
  exact lv_tableIn hC.1 hC.2.1 hdg (by rw [zz_ti hr]; exact h1) (by rw [zz_ti hr]; exact h2) (by rw [zz_ti hr]; exact ho) ht (kk hR H locs ls hP hD hS hl)
theorem gd_tableOut (hC : zz_C p c cc nL s m own) {dflt lo hi : Int} {offs : Array Int} {len : Nat} {x : Int} {tgt : Nat} (hdg : decode cc pc = .ok (.tableswitch dflt lo hi offs, len)) (hr : zz_R x) (h : x < lo ∨ hi < x) (ht : (pc : Int) + dflt = (tgt : Int)) (kk : Gd_ p l e R s m args below meth c Q N0 G a nL (k) (S) (tgt) (lv) (st)) : Gd_ p l e R s m args below meth c Q N0 G a nL (k) (S) (pc) (lv) (zz_v x :: st) := fun hR H locs ls hP hD hS hl => lv_tableOut hC.1 hC.2.1 hdg (by rw [zz_ti hr]; exact h) ht (kk hR H locs ls hP hD hS hl)

theorem gd_getI (hC : zz_C p c cc nL s m own) {ref C : String} {T : u_T} {N ci index b : Nat} (hcw : ∀ w ∈ u_ws C T N, w.before args s = true) (hK : va_K G.1 vwCl (zz_T G) s) {rf : Nat → Option Nat} (hk : zz_k b = (0, ci, N, rf)) (hb : b < 77) (hc : vwCl[ci]? = some (C, T, N)) (f : Nat) (hf : f < N) (hrf : rf f = none) (hlink : (Cond.fieldLink own index ref (T f).2.1 (T f).2.2.1).before args s = true) (hsame : (T f).1 = ref) (hdg : decode cc pc = .ok (.getfield index, 3)) (kk : zz_R (S b f) → Gd_ p l e R s m args below meth c Q N0 G a nL (k) (S) (pc + 3) (lv) (zz_v (S b f) :: st)) : Gd_ p l e R s m args below meth c Q N0 G a nL (k) (S) (pc) (lv) (.ref (a b) :: st) := fun hR H locs ls hP hD hS hl => va_get hC.1 hC.2.1 hcw (fun _ h => h) hC.2.2.2 hK hP b (by rw [zz_W_get hb, hk, zz_cO]) hc f hf hlink (fun x h => by rw [← hsame]; exact h) (by rw [zz_fat hf]; simp only [zz_f, hrf]) hdg (kk (hR b f) hR H locs ls hP hD hS hl)
theorem gd_getR (hC : zz_C p c cc nL s m own) {ref C : String} {T : u_T} {N ci index b : Nat} (hcw : ∀ w ∈ u_ws C T N, w.before args s = true) (hK : va_K G.1 vwCl (zz_T G) s) {rf : Nat → Option Nat} (hk : zz_k b = (0, ci, N, rf)) (hb : b < 77) (hc : vwCl[ci]? = some (C, T, N)) (f : Nat) (hf : f < N) {j : Nat} (hrf : rf f = some j) (hlink : (Cond.fieldLink own index ref (T f).2.1 (T f).2.2.1).before args s = true) (hsame : (T f).1 = ref) (hdg : decode cc pc = .ok (.getfield index, 3)) (kk : Gd_ p l e R s m args below meth c Q N0 G a nL (k) (S) (pc + 3) (lv) (.ref (a j) :: st)) : Gd_ p l e R s m args below meth c Q N0 G a nL (k) (S) (pc) (lv) (.ref (a b) :: st) := fun hR H locs ls hP hD hS hl => va_get hC.1 hC.2.1 hcw (fun _ h => h) hC.2.2.2 hK hP b (by rw [zz_W_get hb, hk, zz_cO]) hc f hf hlink (fun x h => by rw [← hsame]; exact h) (by rw [zz_fat hf]; simp only [zz_f, hrf]) hdg (kk hR H locs ls hP hD hS hl)
theorem gd_put (hC : zz_C p c cc nL s m own) {ref C : String} {T : u_T} {N ci index b : Nat} (hcw : ∀ w ∈ u_ws C T N, w.before args s = true) (ty0 : Nat → FieldType) (hty : ∀ k, k < N → parseFieldDescriptor (T k).2.2.1 = some (ty0 k)) (hnm : ∀ a, a < N → ∀ b, b < N → a ≠ b → (T a).2.1 ≠ (T b).2.1) (hK : va_K G.1 vwCl (zz_T G) s) {rf : Nat → Option Nat} (hk : zz_k b = (0, ci, N, rf)) (hb : b < 77) (hc : vwCl[ci]? = some (C, T, N)) (f : Nat) (hf : f < N) (hrf : rf f = none) (hlink : (Cond.fieldLink own index ref (T f).2.1 (T f).2.2.1).before args s = true) (hsame : (T f).1 = ref) (hfin : (T f).2.2.2 = false) {ty : FieldType} {z : Int} (hd : parseFieldDescriptor (T f).2.2.1 = some ty) (hn : narrow ty (zz_v z) = zz_v z) (hfit : fits ty (zz_v z) = true) (hz : zz_R z) (hdg : decode cc pc = .ok (.putfield index, 3)) (kk : Gd_ p l e R s m args below meth c Q N0 G a nL (k) (zz_u S b f z) (pc + 3) (lv) (st)) : Gd_ p l e R s m args below meth c Q N0 G a nL (k) (S) (pc) (lv) (zz_v z :: .ref (a b) :: st) := fun hR H locs ls hP hD hS hl => va_put hC.1 hC.2.1 hcw (fun _ h => h) ty0 hty hnm hC.2.2.2 hK hP hD hS b (by rw [zz_W_get hb, hk, zz_cO]) hc f hf hlink (fun x h => by rw [← hsame]; exact h) hfin hd hn hfit (by rw [List.length_map, List.length_range]; exact hf) hdg (fun H1 locs1 hP1 hD1 hS1 => by
  have h9 : (zz_W G a S).set b (a b, .inr (ci, ((List.range N).map (zz_f a (S b) rf)).set f (zz_v z))) = zz_W G a (zz_u S b f z) := zz_W_set hb (by rw [hk, zz_cO, zz_u_row, zz_fset hrf hf]) (fun j hj => zz_u_off S z hj)
  rw [h9] at hP1 hD1
  exact kk (zz_Rg_u hR hz) H1 locs1 ls hP1 hD1 hS1 hl)
theorem gd_iald (hC : zz_C p c cc nL s m own) (hK : va_K G.1 vwCl (zz_T G) s) {b n j : Nat} {i : Int} {rf : Nat → Option Nat} (hk : zz_k b = (1, 0, n, rf)) (hb : b < 77) (hi : i = (j : Int)) (hj : j < n) (hn : n < 2147483648) (hdg : decode cc pc = .ok (.iaload, 1)) (kk : zz_R (S b j) → Gd_ p l e R s m args below meth c Q N0 G a nL (k) (S) (pc + 1) (lv) (zz_v (S b j) :: st)) : Gd_ p l e R s m args below meth c Q N0 G a nL (k) (S) (pc) (lv) (zz_v i :: .ref (a b) :: st) := fun hR H locs ls hP hD hS hl => va_iald hC.1 hC.2.1 hK hP b 0 (by rw [zz_W_get hb, hk, zz_cA]) rfl (zz_in hi hj hn) hdg (by rw [zz_cl hi (by omega)]; exact kk (hR b j) hR H locs ls hP hD hS hl)
theorem gd_cald (hC : zz_C p c cc nL s m own) (hK : va_K G.1 vwCl (zz_T G) s) {b n j : Nat} {i : Int} {rf : Nat → Option Nat} (hk : zz_k b = (1, 1, n, rf)) (hb : b < 77) (hi : i = (j : Int)) (hj : j < n) (hn : n < 2147483648) (hdg : decode cc pc = .ok (.caload, 1)) (kk : zz_R (S b j) → Gd_ p l e R s m args below meth c Q N0 G a nL (k) (S) (pc + 1) (lv) (zz_v (S b j) :: st)) : Gd_ p l e R s m args below meth c Q N0 G a nL (k) (S) (pc) (lv) (zz_v i :: .ref (a b) :: st) := fun hR H locs ls hP hD hS hl => va_cald hC.1 hC.2.1 hK hP b 1 (by rw [zz_W_get hb, hk, zz_cA]) rfl (zz_in hi hj hn) hdg (by rw [zz_cl hi (by omega)]; exact kk (hR b j) hR H locs ls hP hD hS hl)
theorem gd_aald (hC : zz_C p c cc nL s m own) (hK : va_K G.1 vwCl (zz_T G) s) {b n j t q : Nat} {i : Int} {Cn : String} {rf : Nat → Option Nat} (hk : zz_k b = (2, t, n, rf)) (hb : b < 77) (ht : (zz_T G)[t]? = some (G.2.1 t, .object Cn)) (hi : i = (j : Int)) (hj : j < n) (hn : n < 2147483648) (hq : rf j = some q) (hdg : decode cc pc = .ok (.aaload, 1)) (kk : Gd_ p l e R s m args below meth c Q N0 G a nL (k) (S) (pc + 1) (lv) (.ref (a q) :: st)) : Gd_ p l e R s m args below meth c Q N0 G a nL (k) (S) (pc) (lv) (zz_v i :: .ref (a b) :: st) := fun hR H locs ls hP hD hS hl => va_aldq hC.1 hC.2.1 hK hP b t (by rw [zz_W_get hb, hk, zz_cR]) ht (zz_in hi hj hn) hdg (by
  rw [zz_cl hi (by omega), hq]
  exact kk hR H locs ls hP hD hS hl)
theorem gd_iast (hC : zz_C p c cc nL s m own) (hK : va_K G.1 vwCl (zz_T G) s) {b n j : Nat} {i z : Int} {rf : Nat → Option Nat} (hk : zz_k b = (1, 0, n, rf)) (hb : b < 77) (hi : i = (j : Int)) (hj : j < n) (hn : n < 2147483648) (hz : zz_R z) (hdg : decode cc pc = .ok (.iastore, 1)) (kk : Gd_ p l e R s m args below meth c Q N0 G a nL (k) (zz_u S b j z) (pc + 1) (lv) (st)) : Gd_ p l e R s m args below meth c Q N0 G a nL (k) (S) (pc) (lv) (zz_v z :: zz_v i :: .ref (a b) :: st) := fun hR H locs ls hP hD hS hl => va_iast hC.1 hC.2.1 hK hP hD hS b 0 (by rw [zz_W_get hb, hk, zz_cA]) rfl (zz_in hi hj hn) hdg (fun H1 locs1 hP1 hD1 hS1 => by
  rw [zz_cl hi (by omega), zz_uA, zz_W_set (S' := zz_u S b j z) hb (by rw [hk, zz_cA, zz_u_row]) (fun q hq => zz_u_off S z hq)] at hP1 hD1
  exact kk (zz_Rg_u hR hz) H1 locs1 ls hP1 hD1 hS1 hl)
theorem gd_cast (hC : zz_C p c cc nL s m own) (hK : va_K G.1 vwCl (zz_T G) s) {b n j : Nat} {i z : Int} {rf : Nat → Option Nat} (hk : zz_k b = (1, 1, n, rf)) (hb : b < 77) (hi : i = (j : Int)) (hj : j < n) (hn : n < 2147483648) (hz : zz_R z) (hnar : vp_nar .char (Int32.ofInt z) = Int32.ofInt z) (hdg : decode cc pc = .ok (.castore, 1)) (kk : Gd_ p l e R s m args below meth c Q N0 G a nL (k) (zz_u S b j z) (pc + 1) (lv) (st)) : Gd_ p l e R s m args below meth c Q N0 G a nL (k) (S) (pc) (lv) (zz_v z :: zz_v i :: .ref (a b) :: st) := fun hR H locs ls hP hD hS hl => va_cast hC.1 hC.2.1 hK hP hD hS b 1 (by rw [zz_W_get hb, hk, zz_cA]) rfl (zz_in hi hj hn) hdg (fun H1 locs1 hP1 hD1 hS1 => by
  rw [hnar, zz_cl hi (by omega), zz_uA, zz_W_set (S' := zz_u S b j z) hb (by rw [hk, zz_cA, zz_u_row]) (fun q hq => zz_u_off S z hq)] at hP1 hD1
  exact kk (zz_Rg_u hR hz) H1 locs1 ls hP1 hD1 hS1 hl)
theorem gd_i2l (hC : zz_C p c cc nL s m own) {z : Int} (hz : zz_R z) (hdg : decode cc pc = .ok (.i2l, 1)) (kk : Gd_ p l e R s m args below meth c Q N0 G a nL (k) (S) (pc + 1) (lv) (zz_l z :: st)) : Gd_ p l e R s m args below meth c Q N0 G a nL (k) (S) (pc) (lv) (zz_v z :: st) := fun hR H locs ls hP hD hS hl => lv_i2l hC.1 hC.2.1 hdg (by
  have h1 := hz.1
  have h2 := hz.2
  exact Int32.toInt64_ofInt (by rw [show Int32.minValue.toInt = -2147483648 from rfl]; exact h1) (by rw [show Int32.maxValue.toInt = 2147483647 from rfl]; omega)) (kk hR H locs ls hP hD hS hl)

end ZG
