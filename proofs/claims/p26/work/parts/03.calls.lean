/-! what a state gives besides the world: the statics that a throw reads, the class's texts, the four words -/
def zz_tx : List (Nat × String) := [(43, "not a letter from a to z"), (54, "the word is full"), (64, "no more offices"), (66, "an office cannot be let act for itself"), (89, "no more acts"), (109, "that person made a plea of it"), (114, "the complaint is barred"), (136, "not open, or asked for before"), (147, "no file is owed"), (152, "not open, not answered, or heard before"), (154, "not open, or the officer was not heard"), (162, "not found with a fault"), (171, "above the last day"), (208, "there is none of that number"), (211, "out of its range"), (238, "no more complaints")]
def zz_wl : List Nat := [5, 7, 4, 6]
def zz_wb : List (List Int32) := [[100, 101, 108, 97, 121], [112, 114, 111, 109, 105, 115, 101], [114, 117, 108, 101], [97, 110, 115, 119, 101, 114]]
def zz_wi : List (Nat × String) := [(213, "delay"), (215, "promise"), (217, "rule"), (219, "answer")]
def zz_ex : List String := ["java/lang/IndexOutOfBoundsException", "java/lang/IllegalArgumentException", "java/lang/IllegalStateException"]
def zz_dc : List String := ["java/lang/RuntimeException", "java/lang/Exception", "java/lang/Throwable"]
theorem zz_warmD {x : MethodName} {s U : State} (hW : s.WarmedH U.vm) (hZ : va_Nw (.declares x) s) : va_Nw (.declares x) U := va_tabs rfl (rfl : (s.setVm U.vm).vm = U.vm) (by rw [Cond.declares_setVm hW.alike]; exact hZ)
abbrev zz_Y : Type := (Nat → Nat) × (Nat → Nat)
def zz_E (N0 : Nat) (Y : zz_Y) (U : State) : Prop := vx_Zq Bundle.tN "UNASSIGNED_STACK" Bundle.steD (zz_A N0) U U.heap ∧ vx_Zq Bundle.tN "SUPPRESSED_SENTINEL" Bundle.listD (zz_A N0) U U.heap ∧ (∀ q ∈ zz_tx, ∃ sa : Nat, vk_R RX3 q.1 q.2 sa U) ∧ vk_S 4 zz_wl zz_wb Y.1 Y.2 (zz_A N0) U U.heap ∧ (∀ (i : Nat) (q : Nat × String), zz_wi[i]? = some q → vk_R RX3 q.1 q.2 (Y.1 i) U) ∧ (∀ E ∈ zz_ex, va_Nw (.castable E E) U) ∧ (∀ E ∈ zz_ex, ∀ E2 ∈ zz_ex, E ≠ E2 → va_Nc E E2 U) ∧ (∀ n ∈ zz_dc, va_Nw (.declares (Bundle.initS n)) U) ∧ va_Z "java/lang/String" "COMPACT_STRINGS" "Z" (.int 1) (zz_A N0) U U.heap ∧ va_Zq "jdk/internal/util/Preconditions" "SIOOBE_FORMATTER" "Ljava/util/function/BiFunction;" (zz_A N0) U U.heap
/-- the environment of a state seen from a later one: the old cells below N0 unchanged -/
theorem zz_E_warm {N0 : Nat} {Y : zz_Y} {s U : State} {H : Heap} {locs : List Loc} (h : zz_E N0 Y s) (hS : va_S (zz_A N0) s.heap H locs) (hU : U.heap = H) (hW : s.WarmedH U.vm) : zz_E N0 Y U := by
  obtain ⟨h1, h2, h3, h4, h5, h6, h7, h8, h9, h10⟩ := h
  subst hU
  exact ⟨vx_Zq.moved hW.alike (h1.kept hS.2.1), vx_Zq.moved hW.alike (h2.kept hS.2.1), fun q hq => by
    obtain ⟨sa, hsa⟩ := h3 q hq
    exact ⟨sa, hsa.warm hW⟩, vk_S.moved hW.alike (h4.kept hS.2.1), fun i q hq => (h5 i q hq).warm hW, fun E hE => va_Nw.warmC hW (h6 E hE), fun E hE E2 hE2 hn => va_Nc.moved hW.alike (h7 E hE E2 hE2 hn), fun n hn => zz_warmD hW (h8 n hn), va_Z.moved hW.alike (h9.kept hS.2.1), va_Zq.moved hW.alike (h10.kept hS.2.1)⟩
/-- what holds ahead of a call: the whole world, and what stands beside it -/
def zz_P (N0 : Nat) (G : zz_G) (Y : zz_Y) (a : Nat → Nat) (S : zz_S) (U : State) : Prop := N0 ≤ U.heap.size ∧ va_P G.1 vwCl (zz_W G a S) U.heap ∧ va_K G.1 vwCl (zz_T G) U ∧ va_D (zz_A N0) (zz_W G a S) ∧ zz_Rg S ∧ zz_E N0 Y U
def zz_B (N0 : Nat) (G : zz_G) (a : Nat → Nat) (S : zz_S) (t : State) : Prop := va_P G.1 vwCl (zz_W G a S) t.heap ∧ va_D (zz_A N0) (zz_W G a S) ∧ zz_Rg S
theorem zz_blind {N0 : Nat} {G : zz_G} {Y : zz_Y} {a : Nat → Nat} {S : zz_S} {av : List Value} : FrameBlind (va_Pc av (zz_P N0 G Y a S)) := by
  intro v U g mk h
  obtain ⟨h0, h1, h2, h3, h4, h5, h6⟩ := h
  have hW : U.WarmedH (U.calling g mk v).vm := State.WarmedH.refl U
  exact ⟨h0, h1, h2, va_K.moved (u := U) (U := U.calling g mk v) (Vm.Alike.refl U.vm) h3, h4, h5, zz_E_warm (s := U) (H := U.heap) (locs := []) h6 va_S.rf rfl hW⟩
/-- a contract: from the world S the method returns as 'post' says, or throws as 'px' says; at most K thrown objects are made -/
def zz_Q (N0 : Nat) (G : zz_G) (a : Nat → Nat) (post : Option Value → zz_S → Prop) : Array Value → State → Outcome → State → Prop := fun _ st0 oc t => (∃ (v : Option Value) (S' : zz_S), oc = .returned v ∧ post v S' ∧ zz_B N0 G a S' t) ∧ va_F (zz_A N0) st0 t
def zz_X (N0 : Nat) (G : zz_G) (a : Nat → Nat) (px : String → zz_S → Prop) : String → State → State → Prop := fun E st0 t => (∃ S' : zz_S, px E S' ∧ zz_B N0 G a S' t) ∧ va_F (zz_A N0) st0 t
def Ct_ (l : Launch) (y : MethodName) (ws : List Cond) (rm : Room) (K : Nat) (av : List Value) (N0 : Nat) (G : zz_G) (Y : zz_Y) (a : Nat → Nat) (S : zz_S) (post : Option Value → zz_S → Prop) (px : String → zz_S → Prop) : Prop :=
  vx_Met l y ws rm (va_Pc av (zz_P N0 G Y a S)) (zz_Q N0 G a post) (zz_X N0 G a px) K (6 * K) (zz_A N0)
/-- which exceptions, and when -/
def zz_xc (E : String) (X1 X2 X3 : Prop) : Prop := (E = "java/lang/IndexOutOfBoundsException" ∧ X1) ∨ (E = "java/lang/IllegalArgumentException" ∧ X2) ∨ (E = "java/lang/IllegalStateException" ∧ X3)
theorem zz_xm {E : String} {X1 X2 X3 Z1 Z2 Z3 : Prop} (h1 : X1 → Z1) (h2 : X2 → Z2) (h3 : X3 → Z3) (h : zz_xc E X1 X2 X3) : zz_xc E Z1 Z2 Z3 := by
  rcases h with ⟨q1, q2⟩ | ⟨q1, q2⟩ | ⟨q1, q2⟩
  · exact Or.inl ⟨q1, h1 q2⟩
  · exact Or.inr (Or.inl ⟨q1, h2 q2⟩)
  · exact Or.inr (Or.inr ⟨q1, h3 q2⟩)
theorem zz_xn {E : String} {C : Prop} (h : zz_xc E False False False) : C := by
  rcases h with ⟨-, q⟩ | ⟨-, q⟩ | ⟨-, q⟩ <;> exact q.elim
/-- .. that answers the whole number e, leaves the world S1, where F holds -/
def CtR (l : Launch) (y : MethodName) (ws : List Cond) (rm : Room) (K : Nat) (av : List Value) (N0 : Nat) (G : zz_G) (Y : zz_Y) (a : Nat → Nat) (S : zz_S) (e : Int) (S1 : zz_S) (F X1 X2 X3 : Prop) : Prop :=
  Ct_ l y ws rm K av N0 G Y a S (fun v S' => ∃ r : Int, zz_R r ∧ v = some (zz_v r) ∧ S' = S1 ∧ r = e ∧ F) (fun E S' => S' = S ∧ zz_xc E X1 X2 X3)
/-- .. nothing -/
def CtN (l : Launch) (y : MethodName) (ws : List Cond) (rm : Room) (K : Nat) (av : List Value) (N0 : Nat) (G : zz_G) (Y : zz_Y) (a : Nat → Nat) (S : zz_S) (S1 : zz_S) (F X1 X2 X3 : Prop) : Prop :=
  Ct_ l y ws rm K av N0 G Y a S (fun v S' => v = none ∧ S' = S1 ∧ F) (fun E S' => S' = S ∧ zz_xc E X1 X2 X3)
/-- .. one of the four words, by its place -/
def CtW (l : Launch) (y : MethodName) (ws : List Cond) (rm : Room) (K : Nat) (av : List Value) (N0 : Nat) (G : zz_G) (Y : zz_Y) (a : Nat → Nat) (S : zz_S) (i : Nat) : Prop :=
  Ct_ l y ws rm K av N0 G Y a S (fun v S' => v = some (.ref (Y.1 i)) ∧ S' = S) (fun E S' => S' = S ∧ zz_xc E False False False)

theorem zz_nb {z : Int} (h : z = 0 ∨ z = 1) : narrow .boolean (zz_v z) = zz_v z := by rcases h with rfl | rfl <;> rfl
theorem zz_fb {z : Int} (h : z = 0 ∨ z = 1) : fits .boolean (zz_v z) = true := by rcases h with rfl | rfl <;> rfl
theorem zz_nz {z : Int} (h : z = 0 ∨ z = 1) : vp_nar .boolean (Int32.ofInt z) = Int32.ofInt z := by rcases h with rfl | rfl <;> rfl
theorem zz_nN {n : Nat} : Int32.ofInt (n : Int) = nI n := Int32.ofInt_eq_ofNat
theorem zz_nc {z : Int} (h : 0 ≤ z ∧ z < 65536) : vp_nar .char (Int32.ofInt z) = Int32.ofInt z := by
  obtain ⟨n, rfl⟩ : ∃ n : Nat, z = (n : Int) := ⟨z.toNat, by omega⟩
  rw [zz_nN, vp_nar_char]
  have h1 := (pk_charN (q := n) (by omega)).1
  rw [show (nI n).toUInt32.toUInt16.toUInt32.toInt32 = vp_nar .char (nI n) from (vp_nar_char _).symm]
  unfold vp_nar
  rw [h1]
/-- as lcmp answers -/
def zz_cmp3 (x y : Int) : Int := if y < x then 1 else if x = y then 0 else -1
theorem zz_tl {z : Int} (h : zz_R z) : (Int64.ofInt z).toInt = z := by
  obtain ⟨h1, h2⟩ := h
  rw [Int64.toInt_ofInt, show Int64.size = 2 ^ 64 from rfl, Int.bmod_eq_of_le (by omega) (by omega)]
theorem zz_cmp3_eq {x y : Int} (hx : zz_R x) (hy : zz_R y) : lg_cmp (Int64.ofInt x) (Int64.ofInt y) = Int32.ofInt (zz_cmp3 x y) := by
  have e1 : Int64.ofInt y < Int64.ofInt x ↔ y < x := by rw [Int64.lt_iff_toInt_lt, zz_tl hx, zz_tl hy]
  have e2 : Int64.ofInt x = Int64.ofInt y ↔ x = y := by rw [← Int64.toInt_inj, zz_tl hx, zz_tl hy]
  unfold zz_cmp3
  by_cases h1 : y < x
  · rw [if_pos h1]
    simp [lg_cmp, e1.mpr h1]
  · have h1' : ¬ Int64.ofInt y < Int64.ofInt x := fun z => h1 (e1.mp z)
    rw [if_neg h1]
    by_cases h2 : x = y
    · rw [if_pos h2]
      have h2' := e2.mpr h2
      simp [lg_cmp, h2']
    · rw [if_neg h2]
      have h2' : ¬ Int64.ofInt x = Int64.ofInt y := fun z => h2 (e2.mp z)
      simp [lg_cmp, h1', h2']
theorem zz_shl {y : Int} (hy : 0 ≤ y ∧ y < 16) : Int32.ofInt 1 <<< (Int32.ofInt y &&& 31) = Int32.ofInt ((2 ^ y.toNat : Nat) : Int) := by
  have key : ∀ n : Nat, n < 16 → Int32.ofInt 1 <<< (nI n &&& 31) = nI (2 ^ n) := by decide +kernel
  obtain ⟨n, rfl⟩ : ∃ n : Nat, y = (n : Int) := ⟨y.toNat, by omega⟩
  rw [zz_nN, key n (by omega), zz_nN, Int.toNat_natCast]
theorem zz_shr {x y : Int} (hx : 0 ≤ x ∧ x < 2147483648) (hy : 0 ≤ y ∧ y < 16) : Int32.ofInt x >>> (Int32.ofInt y &&& 31) = Int32.ofInt ((x.toNat / 2 ^ y.toNat : Nat) : Int) := by
  have key : ∀ n : Nat, n < 16 → ((nI n &&& 31).toBitVec.smod 32).toNat = n := by decide +kernel
  obtain ⟨n, rfl⟩ : ∃ n : Nat, y = (n : Int) := ⟨y.toNat, by omega⟩
  obtain ⟨j, rfl⟩ : ∃ j : Nat, x = (j : Int) := ⟨x.toNat, by omega⟩
  rw [zz_nN, zz_nN, zz_nN, pk_shrN (by omega) _ n (key n (by omega)), Int.toNat_natCast, Int.toNat_natCast]
theorem zz_and1 {n : Nat} : Int32.ofInt ((n : Nat) : Int) &&& Int32.ofInt 1 = Int32.ofInt ((n % 2 : Nat) : Int) := by
  have key : ∀ b : Nat, nI n &&& nI b = nI (n &&& b) := by
    intro b
    apply Int32.toBitVec_inj.1
    show BitVec.ofNat 32 n &&& BitVec.ofNat 32 b = BitVec.ofNat 32 (n &&& b)
    apply BitVec.eq_of_getLsbD_eq
    intro i hi
    simp [hi]
  have h1 := key 1
  rw [Nat.and_one_is_mod] at h1
  rw [zz_nN, zz_nN]
  exact h1
theorem zz_or {x y : Int} (hx : 0 ≤ x ∧ x < 65536) (hy : 0 ≤ y ∧ y < 65536) : Int32.ofInt x ||| Int32.ofInt y = Int32.ofInt ((x.toNat ||| y.toNat : Nat) : Int) := by
  obtain ⟨n, rfl⟩ : ∃ n : Nat, x = (n : Int) := ⟨x.toNat, by omega⟩
  obtain ⟨j, rfl⟩ : ∃ j : Nat, y = (j : Int) := ⟨y.toNat, by omega⟩
  rw [zz_nN, zz_nN, zz_nN, Int.toNat_natCast, Int.toNat_natCast]
  apply Int32.toBitVec_inj.1
  show BitVec.ofNat 32 n ||| BitVec.ofNat 32 j = BitVec.ofNat 32 (n ||| j)
  apply BitVec.eq_of_getLsbD_eq
  intro i hi
  simp [hi]

section ZH
variable {p : Program} {l : Launch} {e : Env} {R : Room} {s : State} {m : MethodId} {args : Array Value} {below : List Frame} {meth : Method} {c : Code} {Q : State → Prop} {N0 : Nat} {G : zz_G} {a : Nat → Nat} {nL k : Nat} {S : zz_S} {pc : Nat} {lv : List (Nat × Value)} {st : List Value} {cc : ByteArray} {own : String}

theorem gd_call {rm : Room} {K : Nat} {av : List Value} {Y : zz_Y} {mc ms : Nat} {post : Option Value → zz_S → Prop} {px : String → zz_S → Prop} {st0 rest : List Value} (hms : ms = 6 * mc)
    (hr : zz_Rg S → ∀ (H : Heap) (locs : List Loc) (ls : Array Slot), va_P G.1 vwCl (zz_W G a S) H → va_D (zz_A N0) (zz_W G a S) → va_S (zz_A N0) s.heap H locs → lv_has ls nL lv → vx_Run p l e R s m args below meth c H locs k (6 * k) mc ms (F0 m pc ls st0) rest (zz_Q N0 G a post av.toArray) (zz_X N0 G a px) (zz_A N0))
    (kx : ∀ (E : String) (S' : zz_S), px E S' → Gx_ p l e R s m args below meth c Q N0 G a nL (k + mc) (S') (pc) (lv) (rest) (E))
    (kk : ∀ (v : Option Value) (S' : zz_S), post v S' → Gd_ p l e R s m args below meth c Q N0 G a nL (k + mc) (S') (pc + 3) (lv) (v.toList ++ rest)) : Gd_ p l e R s m args below meth c Q N0 G a nL (k) (S) (pc) (lv) (st0) := by
  intro hR H locs ls hP hD hS hl T hT X
  have e6 : 6 * k + ms = 6 * (k + mc) := by rw [hms]; omega
  rcases hr hR H locs ls hP hD hS hl T hT X with ⟨v, st₀, t, T', L, h0, X', hL, e1, e2, ⟨⟨v', S', hv, hp, hP', hD', hR'⟩, hF⟩, hst⟩ | ⟨q, st₀, t, T', L, E, ce, h0, X', hL, e1, e2, ⟨⟨S', hp, hP', hD', hR'⟩, hF⟩, hce, hcv, hcl, hst⟩
  · cases hv
    obtain ⟨-, -, k3⟩ := vx_keep h0 e1 hS (fun _ _ h => h) (fun _ h => h) hL hF
    rw [← e1] at hP'
    rw [e6] at X'
    obtain ⟨t2, a1, b1⟩ := kk v S' hp hR' T'.heap (locs ++ L) ls hP' hD' k3 hl T' rfl X'
    exact ⟨t2, hst t2 a1, b1⟩
  · obtain ⟨-, -, k3⟩ := vx_keep h0 e1 hS (fun _ _ h => h) (fun _ h => h) hL hF
    rw [← e1] at hP' hce
    rw [e6] at X'
    obtain ⟨t2, a1, b1⟩ := kx E S' hp hR' T'.heap (locs ++ L) ls q ce hP' hD' k3 hl hce hcv hcl T' rfl X'
    exact ⟨t2, hst.trans a1, b1⟩
/-- what a call finds -/
theorem gd_pre {Y : zz_Y} {av : List Value} {H : Heap} {locs : List Loc} (hN : N0 ≤ s.heap.size) (hK : va_K G.1 vwCl (zz_T G) s) (hE : zz_E N0 Y s) (hR : zz_Rg S) (hP : va_P G.1 vwCl (zz_W G a S) H) (hD : va_D (zz_A N0) (zz_W G a S)) (hS : va_S (zz_A N0) s.heap H locs) (U : State) (hU : U.heap = H) (hW : s.WarmedH U.vm) : va_Pc av (zz_P N0 G Y a S) av.toArray U :=
  ⟨rfl, by rw [hU]; exact Nat.le_trans hN hS.1, by rw [hU]; exact hP, va_K.moved hW.alike hK, hD, hR, zz_E_warm hE hS hU hW⟩
/-- what every walk keeps: the facts of its start -/
abbrev zz_F (s : State) (N0 : Nat) (G : zz_G) (Y : zz_Y) : Prop := N0 ≤ s.heap.size ∧ va_K G.1 vwCl (zz_T G) s ∧ zz_E N0 Y s
theorem gd_callS {y : MethodName} {bytes : ByteArray} {maxL index n K : Nat} {ret : Option FieldType} {ws : List Cond} {rm : Room} {Y : zz_Y} {As rest : List Value} {post : Option Value → zz_S → Prop} {px : String → zz_S → Prop} (hC : zz_C p c cc nL s m own) (hF : zz_F s N0 G Y)
    (hM : zz_Rg S → Ct_ l y ws rm K As N0 G Y a S post px) (cw : CallB R s args own index y bytes maxL ret ws rm K (6 * K) n ∧ (Cond.static y).before args s = true) (hn : As.length = n) (hst : st = As.reverse ++ rest) (hW : (rest.map fun v => v.category).sum ≤ 8) (hdg : decode cc pc = .ok (.invokestatic index, 3)) (hf : k + K ≤ R.cells ∧ 6 * (k + K) ≤ R.slots)
    (kx : ∀ (E : String) (S' : zz_S), px E S' → Gx_ p l e R s m args below meth c Q N0 G a nL (k + K) (S') (pc) (lv) (rest) (E))
    (kk : ∀ (v : Option Value) (S' : zz_S), post v S' → Gd_ p l e R s m args below meth c Q N0 G a nL (k + K) (S') (pc + 3) (lv) (v.toList ++ rest)) : Gd_ p l e R s m args below meth c Q N0 G a nL (k) (S) (pc) (lv) (st) :=
  gd_call (rm := rm) (K := K) (Y := Y) (av := As) rfl (fun hR H locs ls hP hD hS hl => vx_runS (Ts := []) ⟨hC.1, hC.2.1, hC.2.2.1, hC.2.2.2, fun _ h => nomatch h⟩ (hM hR) cw ⟨zz_blind, gd_pre hF.1 hF.2.1 hF.2.2 hR hP hD hS⟩ rfl hn hl.1 hst (lv_room hW) hdg ⟨hf.1, by have h2 := hf.2; omega⟩) kx kk
theorem gd_callV {y : MethodName} {bytes : ByteArray} {C : String} {q : vw_C} {maxL index n K b ci N : Nat} {rf : Nat → Option Nat} {ret : Option FieldType} {ws : List Cond} {rm : Room} {Y : zz_Y} {As rest : List Value} {post : Option Value → zz_S → Prop} {px : String → zz_S → Prop} (hC : zz_C p c cc nL s m own) (hF : zz_F s N0 G Y)
    (hM : zz_Rg S → Ct_ l y ws rm K (.ref (a b) :: As) N0 G Y a S post px) (cw : CallW R s args own C index y bytes maxL ret ws rm K (6 * K) n) (hk : zz_k b = (0, ci, N, rf)) (hb : b < 77) (hc : vwCl[ci]? = some q) (hq : q.1 = C) (hn : As.length = n) (hst : st = As.reverse ++ .ref (a b) :: rest) (hW : (rest.map fun v => v.category).sum ≤ 8) (hdg : decode cc pc = .ok (.invokevirtual index, 3)) (hf : k + K ≤ R.cells ∧ 6 * (k + K) ≤ R.slots)
    (kx : ∀ (E : String) (S' : zz_S), px E S' → Gx_ p l e R s m args below meth c Q N0 G a nL (k + K) (S') (pc) (lv) (rest) (E))
    (kk : ∀ (v : Option Value) (S' : zz_S), post v S' → Gd_ p l e R s m args below meth c Q N0 G a nL (k + K) (S') (pc + 3) (lv) (v.toList ++ rest)) : Gd_ p l e R s m args below meth c Q N0 G a nL (k) (S) (pc) (lv) (st) :=
  gd_call (rm := rm) (K := K) (Y := Y) (av := .ref (a b) :: As) rfl (fun hR H locs ls hP hD hS hl => vx_runV (Ts := []) ⟨hC.1, hC.2.1, hC.2.2.1, hC.2.2.2, fun _ h => nomatch h⟩ (hM hR) cw ⟨zz_blind, by rw [← hq]; exact va_recv hF.2.1 hP hc (q0 := b) (ci := ci) (by rw [zz_W_get hb, hk, zz_cO]), gd_pre hF.1 hF.2.1 hF.2.2 hR hP hD hS⟩ rfl hn hl.1 hst (lv_room hW) hdg ⟨hf.1, by have h2 := hf.2; omega⟩) kx kk
theorem gd_callSX {y : MethodName} {bytes : ByteArray} {hh : List (Nat × Nat × Nat × Nat)} {maxL index n K : Nat} {ret : Option FieldType} {ws : List Cond} {rm : Room} {Y : zz_Y} {As rest : List Value} {post : Option Value → zz_S → Prop} {px : String → zz_S → Prop} (hC : zz_C p c cc nL s m own) (hF : zz_F s N0 G Y)
    (hM : zz_Rg S → Ct_ l y ws rm K As N0 G Y a S post px) (cw : vx_CSW R s args own index y bytes maxL ret hh ws rm K (6 * K) n) (hn : As.length = n) (hst : st = As.reverse ++ rest) (hW : (rest.map fun v => v.category).sum ≤ 8) (hdg : decode cc pc = .ok (.invokestatic index, 3)) (hf : k + K ≤ R.cells ∧ 6 * (k + K) ≤ R.slots)
    (kx : ∀ (E : String) (S' : zz_S), px E S' → Gx_ p l e R s m args below meth c Q N0 G a nL (k + K) (S') (pc) (lv) (rest) (E))
    (kk : ∀ (v : Option Value) (S' : zz_S), post v S' → Gd_ p l e R s m args below meth c Q N0 G a nL (k + K) (S') (pc + 3) (lv) (v.toList ++ rest)) : Gd_ p l e R s m args below meth c Q N0 G a nL (k) (S) (pc) (lv) (st) :=
  gd_call (rm := rm) (K := K) (Y := Y) (av := As) rfl (fun hR H locs ls hP hD hS hl => vx_runSX (Ts := []) ⟨hC.1, hC.2.1, hC.2.2.1, hC.2.2.2, fun _ h => nomatch h⟩ (hM hR) cw ⟨zz_blind, gd_pre hF.1 hF.2.1 hF.2.2 hR hP hD hS⟩ rfl hn hl.1 hst (lv_room hW) hdg ⟨hf.1, by have h2 := hf.2; omega⟩) kx kk

theorem gd_callSR {y : MethodName} {bytes : ByteArray} {maxL index n K : Nat} {ret : Option FieldType} {ws : List Cond} {rm : Room} {Y : zz_Y} {As rest : List Value} {e1 : Int} {S1 : zz_S} {F X1 X2 X3 : Prop} (hC : zz_C p c cc nL s m own) (hF : zz_F s N0 G Y)
    (hM : zz_Rg S → CtR l y ws rm K (As) N0 G Y a S e1 S1 F X1 X2 X3) (cw : CallB R s args own index y bytes maxL ret ws rm K (6 * K) n ∧ (Cond.static y).before args s = true) (hn : As.length = n) (hst : st = As.reverse ++ rest) (hW : (rest.map fun v => v.category).sum ≤ 8) (hdg : decode cc pc = .ok (.invokestatic index, 3)) (hf : k + K ≤ R.cells ∧ 6 * (k + K) ≤ R.slots) (kx : ∀ E : String, zz_xc E X1 X2 X3 → Gx_ p l e R s m args below meth c Q N0 G a nL (k + K) (S) (pc) (lv) (rest) (E))
    (kk : F → zz_R e1 → Gd_ p l e R s m args below meth c Q N0 G a nL (k + K) (S1) (pc + 3) (lv) (zz_v e1 :: rest)) : Gd_ p l e R s m args below meth c Q N0 G a nL (k) (S) (pc) (lv) (st) :=
  gd_callS hC hF hM cw hn hst hW hdg hf (fun E S' h => by obtain ⟨rfl, h⟩ := h; exact kx E h) (fun v S' h => by obtain ⟨r, hr, rfl, rfl, rfl, hp⟩ := h; exact kk hp hr)
theorem gd_callSN {y : MethodName} {bytes : ByteArray} {maxL index n K : Nat} {ret : Option FieldType} {ws : List Cond} {rm : Room} {Y : zz_Y} {As rest : List Value} {S1 : zz_S} {F X1 X2 X3 : Prop} (hC : zz_C p c cc nL s m own) (hF : zz_F s N0 G Y)
    (hM : zz_Rg S → CtN l y ws rm K (As) N0 G Y a S S1 F X1 X2 X3) (cw : CallB R s args own index y bytes maxL ret ws rm K (6 * K) n ∧ (Cond.static y).before args s = true) (hn : As.length = n) (hst : st = As.reverse ++ rest) (hW : (rest.map fun v => v.category).sum ≤ 8) (hdg : decode cc pc = .ok (.invokestatic index, 3)) (hf : k + K ≤ R.cells ∧ 6 * (k + K) ≤ R.slots) (kx : ∀ E : String, zz_xc E X1 X2 X3 → Gx_ p l e R s m args below meth c Q N0 G a nL (k + K) (S) (pc) (lv) (rest) (E))
    (kk : F → Gd_ p l e R s m args below meth c Q N0 G a nL (k + K) (S1) (pc + 3) (lv) (rest)) : Gd_ p l e R s m args below meth c Q N0 G a nL (k) (S) (pc) (lv) (st) :=
  gd_callS hC hF hM cw hn hst hW hdg hf (fun E S' h => by obtain ⟨rfl, h⟩ := h; exact kx E h) (fun v S' h => by obtain ⟨rfl, rfl, hp⟩ := h; exact kk hp)
theorem gd_callSW {y : MethodName} {bytes : ByteArray} {maxL index n K : Nat} {ret : Option FieldType} {ws : List Cond} {rm : Room} {Y : zz_Y} {As rest : List Value} {i : Nat} (hC : zz_C p c cc nL s m own) (hF : zz_F s N0 G Y)
    (hM : zz_Rg S → CtW l y ws rm K (As) N0 G Y a S i) (cw : CallB R s args own index y bytes maxL ret ws rm K (6 * K) n ∧ (Cond.static y).before args s = true) (hn : As.length = n) (hst : st = As.reverse ++ rest) (hW : (rest.map fun v => v.category).sum ≤ 8) (hdg : decode cc pc = .ok (.invokestatic index, 3)) (hf : k + K ≤ R.cells ∧ 6 * (k + K) ≤ R.slots)
    (kk : Gd_ p l e R s m args below meth c Q N0 G a nL (k + K) (S) (pc + 3) (lv) (.ref (Y.1 i) :: rest)) : Gd_ p l e R s m args below meth c Q N0 G a nL (k) (S) (pc) (lv) (st) :=
  gd_callS hC hF hM cw hn hst hW hdg hf (fun E S' h => zz_xn h.2) (fun v S' h => by obtain ⟨rfl, rfl⟩ := h; exact kk)
theorem gd_callVR {y : MethodName} {bytes : ByteArray} {C : String} {q : vw_C} {b ci N : Nat} {rf : Nat → Option Nat} {maxL index n K : Nat} {ret : Option FieldType} {ws : List Cond} {rm : Room} {Y : zz_Y} {As rest : List Value} {e1 : Int} {S1 : zz_S} {F X1 X2 X3 : Prop} (hC : zz_C p c cc nL s m own) (hF : zz_F s N0 G Y)
    (hM : zz_Rg S → CtR l y ws rm K (.ref (a b) :: As) N0 G Y a S e1 S1 F X1 X2 X3) (cw : CallW R s args own C index y bytes maxL ret ws rm K (6 * K) n) (hk : zz_k b = (0, ci, N, rf)) (hb : b < 77) (hc : vwCl[ci]? = some q) (hq : q.1 = C) (hn : As.length = n) (hst : st = As.reverse ++ .ref (a b) :: rest) (hW : (rest.map fun v => v.category).sum ≤ 8) (hdg : decode cc pc = .ok (.invokevirtual index, 3)) (hf : k + K ≤ R.cells ∧ 6 * (k + K) ≤ R.slots) (kx : ∀ E : String, zz_xc E X1 X2 X3 → Gx_ p l e R s m args below meth c Q N0 G a nL (k + K) (S) (pc) (lv) (rest) (E))
    (kk : F → zz_R e1 → Gd_ p l e R s m args below meth c Q N0 G a nL (k + K) (S1) (pc + 3) (lv) (zz_v e1 :: rest)) : Gd_ p l e R s m args below meth c Q N0 G a nL (k) (S) (pc) (lv) (st) :=
  gd_callV hC hF hM cw hk hb hc hq hn hst hW hdg hf (fun E S' h => by obtain ⟨rfl, h⟩ := h; exact kx E h) (fun v S' h => by obtain ⟨r, hr, rfl, rfl, rfl, hp⟩ := h; exact kk hp hr)
theorem gd_callVN {y : MethodName} {bytes : ByteArray} {C : String} {q : vw_C} {b ci N : Nat} {rf : Nat → Option Nat} {maxL index n K : Nat} {ret : Option FieldType} {ws : List Cond} {rm : Room} {Y : zz_Y} {As rest : List Value} {S1 : zz_S} {F X1 X2 X3 : Prop} (hC : zz_C p c cc nL s m own) (hF : zz_F s N0 G Y)
    (hM : zz_Rg S → CtN l y ws rm K (.ref (a b) :: As) N0 G Y a S S1 F X1 X2 X3) (cw : CallW R s args own C index y bytes maxL ret ws rm K (6 * K) n) (hk : zz_k b = (0, ci, N, rf)) (hb : b < 77) (hc : vwCl[ci]? = some q) (hq : q.1 = C) (hn : As.length = n) (hst : st = As.reverse ++ .ref (a b) :: rest) (hW : (rest.map fun v => v.category).sum ≤ 8) (hdg : decode cc pc = .ok (.invokevirtual index, 3)) (hf : k + K ≤ R.cells ∧ 6 * (k + K) ≤ R.slots) (kx : ∀ E : String, zz_xc E X1 X2 X3 → Gx_ p l e R s m args below meth c Q N0 G a nL (k + K) (S) (pc) (lv) (rest) (E))
    (kk : F → Gd_ p l e R s m args below meth c Q N0 G a nL (k + K) (S1) (pc + 3) (lv) (rest)) : Gd_ p l e R s m args below meth c Q N0 G a nL (k) (S) (pc) (lv) (st) :=
  gd_callV hC hF hM cw hk hb hc hq hn hst hW hdg hf (fun E S' h => by obtain ⟨rfl, h⟩ := h; exact kx E h) (fun v S' h => by obtain ⟨rfl, rfl, hp⟩ := h; exact kk hp)
theorem gd_callSXR {y : MethodName} {bytes : ByteArray} {hh : List (Nat × Nat × Nat × Nat)} {maxL index n K : Nat} {ret : Option FieldType} {ws : List Cond} {rm : Room} {Y : zz_Y} {As rest : List Value} {e1 : Int} {S1 : zz_S} {F X1 X2 X3 : Prop} (hC : zz_C p c cc nL s m own) (hF : zz_F s N0 G Y)
    (hM : zz_Rg S → CtR l y ws rm K (As) N0 G Y a S e1 S1 F X1 X2 X3) (cw : vx_CSW R s args own index y bytes maxL ret hh ws rm K (6 * K) n) (hn : As.length = n) (hst : st = As.reverse ++ rest) (hW : (rest.map fun v => v.category).sum ≤ 8) (hdg : decode cc pc = .ok (.invokestatic index, 3)) (hf : k + K ≤ R.cells ∧ 6 * (k + K) ≤ R.slots) (kx : ∀ E : String, zz_xc E X1 X2 X3 → Gx_ p l e R s m args below meth c Q N0 G a nL (k + K) (S) (pc) (lv) (rest) (E))
    (kk : F → zz_R e1 → Gd_ p l e R s m args below meth c Q N0 G a nL (k + K) (S1) (pc + 3) (lv) (zz_v e1 :: rest)) : Gd_ p l e R s m args below meth c Q N0 G a nL (k) (S) (pc) (lv) (st) :=
  gd_callSX hC hF hM cw hn hst hW hdg hf (fun E S' h => by obtain ⟨rfl, h⟩ := h; exact kx E h) (fun v S' h => by obtain ⟨r, hr, rfl, rfl, rfl, hp⟩ := h; exact kk hp hr)
theorem gd_callSXN {y : MethodName} {bytes : ByteArray} {hh : List (Nat × Nat × Nat × Nat)} {maxL index n K : Nat} {ret : Option FieldType} {ws : List Cond} {rm : Room} {Y : zz_Y} {As rest : List Value} {S1 : zz_S} {F X1 X2 X3 : Prop} (hC : zz_C p c cc nL s m own) (hF : zz_F s N0 G Y)
    (hM : zz_Rg S → CtN l y ws rm K (As) N0 G Y a S S1 F X1 X2 X3) (cw : vx_CSW R s args own index y bytes maxL ret hh ws rm K (6 * K) n) (hn : As.length = n) (hst : st = As.reverse ++ rest) (hW : (rest.map fun v => v.category).sum ≤ 8) (hdg : decode cc pc = .ok (.invokestatic index, 3)) (hf : k + K ≤ R.cells ∧ 6 * (k + K) ≤ R.slots) (kx : ∀ E : String, zz_xc E X1 X2 X3 → Gx_ p l e R s m args below meth c Q N0 G a nL (k + K) (S) (pc) (lv) (rest) (E))
    (kk : F → Gd_ p l e R s m args below meth c Q N0 G a nL (k + K) (S1) (pc + 3) (lv) (rest)) : Gd_ p l e R s m args below meth c Q N0 G a nL (k) (S) (pc) (lv) (st) :=
  gd_callSX hC hF hM cw hn hst hW hdg hf (fun E S' h => by obtain ⟨rfl, h⟩ := h; exact kx E h) (fun v S' h => by obtain ⟨rfl, rfl, hp⟩ := h; exact kk hp)
/-- an exception goes on to the caller -/
theorem gx_out {Y : zz_Y} {E : String} {mc : Nat} {Qc : Array Value → State → Outcome → State → Prop} {px : String → zz_S → Prop} (hout : ∀ x ∈ c.exceptionTable.toList, covers x pc = false) (hlocks : meth.locks = false) (hp : px E S) (hk : k ≤ mc) :
    Gx_ p l e R s m args below meth c (vx_MQ below Qc (zz_X N0 G a px) args s mc (6 * mc) (zz_A N0)) N0 G a nL k S pc lv st E := by
  intro hR H locs ls q9 ce hP hD hS hl hce hcv hcl
  exact vx_out hout hlocks hce hcv hcl (fun t ht hW => ⟨⟨S, hp, by rw [ht]; exact hP, hD, hR⟩, hS.F ht⟩) hS.2.2 hk (by omega)
/-- throw new E("text") -/
theorem gd_throwS {Y : zz_Y} {cls text : String} {names : List String} {ik is ic mc : Nat} {Qc : Array Value → State → Outcome → State → Prop} {px : String → zz_S → Prop} (hC : zz_C p c cc nL s m own) (hl9 : l.stackTraces = false) (hF : zz_F s N0 G Y)
    (hcls : Bundle.fit cls = true) (hnames : ∀ n ∈ names, Bundle.fit n = true)
    (hk : (Cond.classLink own ik cls).before args s = true) (hini : (Cond.initialized cls).before args s = true) (hstr : ∃ sa : Nat, vk_R own is text sa s) (hat : ∀ w ∈ vx_atS own ic cls names, w.before args s = true)
    (hgood : ∀ w ∈ Cond.classLink own ik cls :: Cond.initialized cls :: vx_atS own ic cls names, vx_ot w = true)
    (d0 : decode cc pc = .ok (.new ik, 3)) (d3 : decode cc (pc + 3) = .ok (.dup, 1)) (d4 : decode cc (pc + 4) = .ok (.ldc is, 2)) (d6 : decode cc (pc + 6) = .ok (.invokespecial ic, 3)) (d9 : decode cc (pc + 9) = .ok (.athrow, 1))
    (hout : ∀ x ∈ c.exceptionTable.toList, False)
    (hRf : names.length + 3 < R.frames) (hRl : (st.map fun v => v.category).sum + (13 * (names.length + 1) + 43) ≤ R.locals) (hRc : k + 1 ≤ R.cells) (hRs : 6 * k + 6 ≤ R.slots) (hlocks : meth.locks = false)
    (hp : px cls S) (hc : k + 1 ≤ mc) : Gd_ p l e R s m args below meth c (vx_MQ below Qc (zz_X N0 G a px) args s mc (6 * mc) (zz_A N0)) N0 G a nL k S pc lv st := by
  intro hR H locs ls hP hD hS hl
  obtain ⟨sa, hsa⟩ := hstr
  refine vx_throwS hC.1 hC.2.1 hl9 hC.2.2.2 hcls hnames hk hini hsa hat hgood hF.2.2.1 hF.2.2.2.1 hS (hl.1.trans hC.2.2.1.symm) d0 d3 d4 d6 d9 (fun x hx => (hout x hx).elim) hRf hRl hRc hRs hlocks (fun t hvm hsz hq => ?_) hS.2.2 hc (by omega)
  exact ⟨⟨S, hp, va_P.kept hP (fun k q hk => hq q.1 (hP k q hk).lt), hD, hR⟩, ⟨Nat.le_trans hS.1 hsz, fun q h1 h2 => by rw [hq q (Nat.lt_of_lt_of_le h1 hS.1)]; exact hS.2.1 q h1 h2⟩⟩
theorem gd_throw1 {Y : zz_Y} {text : String} {is mc : Nat} {Qc : Array Value → State → Outcome → State → Prop} {S0 : zz_S} {X1 X2 X3 : Prop} (hC : zz_C p c cc nL s m RX3) (hl9 : l.stackTraces = false) (hF : zz_F s N0 G Y)
    (hk : (Cond.classLink RX3 206 "java/lang/IndexOutOfBoundsException").before args s = true) (hini : (Cond.initialized "java/lang/IndexOutOfBoundsException").before args s = true) (htx : (is, text) ∈ zz_tx) (hat : ∀ w ∈ (vx_atS RX3 210 "java/lang/IndexOutOfBoundsException" ["java/lang/RuntimeException", "java/lang/Exception"]).filter goodWord, w.before args s = true)
    (d0 : decode cc pc = .ok (.new 206, 3)) (d3 : decode cc (pc + 3) = .ok (.dup, 1)) (d4 : decode cc (pc + 4) = .ok (.ldc is, 2)) (d6 : decode cc (pc + 6) = .ok (.invokespecial 210, 3)) (d9 : decode cc (pc + 9) = .ok (.athrow, 1))
    (hout : ∀ x ∈ c.exceptionTable.toList, False) (hRf : 5 < R.frames) (hRl : (st.map fun v => v.category).sum + 82 ≤ R.locals) (hRc : k + 1 ≤ R.cells) (hRs : 6 * k + 6 ≤ R.slots) (hlocks : meth.locks = false)
    (hS : S = S0) (hX : X1) (hc : k + 1 ≤ mc) : Gd_ p l e R s m args below meth c (vx_MQ below Qc (zz_X N0 G a (fun E S' => S' = S0 ∧ zz_xc E X1 X2 X3)) args s mc (6 * mc) (zz_A N0)) N0 G a nL k S pc lv st :=
  gd_throwS (Y := Y) (cls := "java/lang/IndexOutOfBoundsException") (names := ["java/lang/RuntimeException", "java/lang/Exception"]) hC hl9 hF (by decide +kernel) (by decide +kernel) hk hini (hF.2.2.2.2.1 (is, text) htx) (vx_hat hat (B := [.castable "java/lang/IndexOutOfBoundsException" "java/lang/IndexOutOfBoundsException", .declares (Bundle.initS "java/lang/RuntimeException"), .declares (Bundle.initS "java/lang/Exception"), .declares (Bundle.initS "java/lang/Throwable")]) (by decide +kernel) (vx_c (va_Nw.use (A := args) rfl (hF.2.2.2.2.2.2.2.1 _ (by decide))) (vx_c (va_Nw.use (A := args) rfl (hF.2.2.2.2.2.2.2.2.2.1 _ (by decide))) (vx_c (va_Nw.use (A := args) rfl (hF.2.2.2.2.2.2.2.2.2.1 _ (by decide))) (vx_c (va_Nw.use (A := args) rfl (hF.2.2.2.2.2.2.2.2.2.1 _ (by decide))) vx_n))))) (by decide +kernel) d0 d3 d4 d6 d9 hout hRf hRl hRc hRs hlocks ⟨hS, Or.inl ⟨rfl, hX⟩⟩ hc
theorem gd_throw2 {Y : zz_Y} {text : String} {is mc : Nat} {Qc : Array Value → State → Outcome → State → Prop} {S0 : zz_S} {X1 X2 X3 : Prop} (hC : zz_C p c cc nL s m RX3) (hl9 : l.stackTraces = false) (hF : zz_F s N0 G Y)
    (hk : (Cond.classLink RX3 41 "java/lang/IllegalArgumentException").before args s = true) (hini : (Cond.initialized "java/lang/IllegalArgumentException").before args s = true) (htx : (is, text) ∈ zz_tx) (hat : ∀ w ∈ (vx_atS RX3 45 "java/lang/IllegalArgumentException" ["java/lang/RuntimeException", "java/lang/Exception"]).filter goodWord, w.before args s = true)
    (d0 : decode cc pc = .ok (.new 41, 3)) (d3 : decode cc (pc + 3) = .ok (.dup, 1)) (d4 : decode cc (pc + 4) = .ok (.ldc is, 2)) (d6 : decode cc (pc + 6) = .ok (.invokespecial 45, 3)) (d9 : decode cc (pc + 9) = .ok (.athrow, 1))
    (hout : ∀ x ∈ c.exceptionTable.toList, False) (hRf : 5 < R.frames) (hRl : (st.map fun v => v.category).sum + 82 ≤ R.locals) (hRc : k + 1 ≤ R.cells) (hRs : 6 * k + 6 ≤ R.slots) (hlocks : meth.locks = false)
    (hS : S = S0) (hX : X2) (hc : k + 1 ≤ mc) : Gd_ p l e R s m args below meth c (vx_MQ below Qc (zz_X N0 G a (fun E S' => S' = S0 ∧ zz_xc E X1 X2 X3)) args s mc (6 * mc) (zz_A N0)) N0 G a nL k S pc lv st :=
  gd_throwS (Y := Y) (cls := "java/lang/IllegalArgumentException") (names := ["java/lang/RuntimeException", "java/lang/Exception"]) hC hl9 hF (by decide +kernel) (by decide +kernel) hk hini (hF.2.2.2.2.1 (is, text) htx) (vx_hat hat (B := [.castable "java/lang/IllegalArgumentException" "java/lang/IllegalArgumentException", .declares (Bundle.initS "java/lang/RuntimeException"), .declares (Bundle.initS "java/lang/Exception"), .declares (Bundle.initS "java/lang/Throwable")]) (by decide +kernel) (vx_c (va_Nw.use (A := args) rfl (hF.2.2.2.2.2.2.2.1 _ (by decide))) (vx_c (va_Nw.use (A := args) rfl (hF.2.2.2.2.2.2.2.2.2.1 _ (by decide))) (vx_c (va_Nw.use (A := args) rfl (hF.2.2.2.2.2.2.2.2.2.1 _ (by decide))) (vx_c (va_Nw.use (A := args) rfl (hF.2.2.2.2.2.2.2.2.2.1 _ (by decide))) vx_n))))) (by decide +kernel) d0 d3 d4 d6 d9 hout hRf hRl hRc hRs hlocks ⟨hS, Or.inr (Or.inl ⟨rfl, hX⟩)⟩ hc
theorem gd_throw3 {Y : zz_Y} {text : String} {is mc : Nat} {Qc : Array Value → State → Outcome → State → Prop} {S0 : zz_S} {X1 X2 X3 : Prop} (hC : zz_C p c cc nL s m RX3) (hl9 : l.stackTraces = false) (hF : zz_F s N0 G Y)
    (hk : (Cond.classLink RX3 52 "java/lang/IllegalStateException").before args s = true) (hini : (Cond.initialized "java/lang/IllegalStateException").before args s = true) (htx : (is, text) ∈ zz_tx) (hat : ∀ w ∈ (vx_atS RX3 56 "java/lang/IllegalStateException" ["java/lang/RuntimeException", "java/lang/Exception"]).filter goodWord, w.before args s = true)
    (d0 : decode cc pc = .ok (.new 52, 3)) (d3 : decode cc (pc + 3) = .ok (.dup, 1)) (d4 : decode cc (pc + 4) = .ok (.ldc is, 2)) (d6 : decode cc (pc + 6) = .ok (.invokespecial 56, 3)) (d9 : decode cc (pc + 9) = .ok (.athrow, 1))
    (hout : ∀ x ∈ c.exceptionTable.toList, False) (hRf : 5 < R.frames) (hRl : (st.map fun v => v.category).sum + 82 ≤ R.locals) (hRc : k + 1 ≤ R.cells) (hRs : 6 * k + 6 ≤ R.slots) (hlocks : meth.locks = false)
    (hS : S = S0) (hX : X3) (hc : k + 1 ≤ mc) : Gd_ p l e R s m args below meth c (vx_MQ below Qc (zz_X N0 G a (fun E S' => S' = S0 ∧ zz_xc E X1 X2 X3)) args s mc (6 * mc) (zz_A N0)) N0 G a nL k S pc lv st :=
  gd_throwS (Y := Y) (cls := "java/lang/IllegalStateException") (names := ["java/lang/RuntimeException", "java/lang/Exception"]) hC hl9 hF (by decide +kernel) (by decide +kernel) hk hini (hF.2.2.2.2.1 (is, text) htx) (vx_hat hat (B := [.castable "java/lang/IllegalStateException" "java/lang/IllegalStateException", .declares (Bundle.initS "java/lang/RuntimeException"), .declares (Bundle.initS "java/lang/Exception"), .declares (Bundle.initS "java/lang/Throwable")]) (by decide +kernel) (vx_c (va_Nw.use (A := args) rfl (hF.2.2.2.2.2.2.2.1 _ (by decide))) (vx_c (va_Nw.use (A := args) rfl (hF.2.2.2.2.2.2.2.2.2.1 _ (by decide))) (vx_c (va_Nw.use (A := args) rfl (hF.2.2.2.2.2.2.2.2.2.1 _ (by decide))) (vx_c (va_Nw.use (A := args) rfl (hF.2.2.2.2.2.2.2.2.2.1 _ (by decide))) vx_n))))) (by decide +kernel) d0 d3 d4 d6 d9 hout hRf hRl hRc hRs hlocks ⟨hS, Or.inr (Or.inr ⟨rfl, hX⟩)⟩ hc
theorem gd_ireturn {mc : Nat} {z : Int} {post : Option Value → zz_S → Prop} {px : String → zz_S → Prop} {ty : FieldType} (hC : zz_C p c cc nL s m own) (hr : meth.sig.returnType = some ty) (hn : narrow ty (zz_v z) = zz_v z) (hlocks : meth.locks = false) (hdg : decode cc pc = .ok (.ireturn, 1)) (hk : k ≤ mc) (hp : post (some (zz_v z)) S) : Gd_ p l e R s m args below meth c (vx_MQ below (zz_Q N0 G a post) (zz_X N0 G a px) args s mc (6 * mc) (zz_A N0)) N0 G a nL k S pc lv [zz_v z] := by
  intro hR H locs ls hP hD hS hl
  refine vx_ret (W.widen hk (show 6 * k ≤ 6 * mc by omega) ?_)
  exact W.zret (v := Int32.ofInt z) hC.1 hC.2.1 hr hn (fun t ht hW => ⟨⟨_, S, rfl, hp, by rw [ht]; exact hP, hD, hR⟩, hS.F ht⟩) hS.2.2 hdg hlocks
theorem gd_return {mc : Nat} {post : Option Value → zz_S → Prop} {px : String → zz_S → Prop} (hC : zz_C p c cc nL s m own) (hr : meth.sig.returnType = none) (hlocks : meth.locks = false) (hdg : decode cc pc = .ok (.return_, 1)) (hk : k ≤ mc) (hp : post none S) : Gd_ p l e R s m args below meth c (vx_MQ below (zz_Q N0 G a post) (zz_X N0 G a px) args s mc (6 * mc) (zz_A N0)) N0 G a nL k S pc lv [] := by
  intro hR H locs ls hP hD hS hl
  refine vx_ret (W.widen hk (show 6 * k ≤ 6 * mc by omega) ?_)
  exact W.vret hC.1 hC.2.1 hr (fun t ht hW => ⟨⟨_, S, rfl, hp, by rw [ht]; exact hP, hD, hR⟩, hS.F ht⟩) hS.2.2 hdg hlocks
theorem gd_areturn {mc x : Nat} {post : Option Value → zz_S → Prop} {px : String → zz_S → Prop} {C : String} (hC : zz_C p c cc nL s m own) (hr : meth.sig.returnType = some (.object C)) (hlocks : meth.locks = false) (hdg : decode cc pc = .ok (.areturn, 1)) (hk : k ≤ mc) (hp : post (some (.ref x)) S) : Gd_ p l e R s m args below meth c (vx_MQ below (zz_Q N0 G a post) (zz_X N0 G a px) args s mc (6 * mc) (zz_A N0)) N0 G a nL k S pc lv [.ref x] := by
  intro hR H locs ls hP hD hS hl
  refine vx_ret (W.widen hk (show 6 * k ≤ 6 * mc by omega) ?_)
  exact W.aret hC.1 hC.2.1 hr (Or.inl ⟨C, rfl⟩) (Or.inr ⟨x, rfl⟩) (fun t ht hW => ⟨⟨_, S, rfl, hp, by rw [ht]; exact hP, hD, hR⟩, hS.F ht⟩) hS.2.2 hdg hlocks
theorem gd_lveq {lv' : List (Nat × Value)} (h : lv = lv') (kk : Gd_ p l e R s m args below meth c Q N0 G a nL (k) (S) (pc) (lv') (st)) : Gd_ p l e R s m args below meth c Q N0 G a nL (k) (S) (pc) (lv) (st) := h ▸ kk
theorem gd_topl {x y : Int} (h : x = y) (kk : Gd_ p l e R s m args below meth c Q N0 G a nL (k) (S) (pc) (lv) (zz_l y :: st)) : Gd_ p l e R s m args below meth c Q N0 G a nL (k) (S) (pc) (lv) (zz_l x :: st) := h ▸ kk
theorem gd_sk {k' : Nat} {S' : zz_S} (hk : k = k') (hS : S = S') (kk : Gd_ p l e R s m args below meth c Q N0 G a nL (k') (S') (pc) (lv) (st)) : Gd_ p l e R s m args below meth c Q N0 G a nL (k) (S) (pc) (lv) (st) := by
  subst hk; subst hS; exact kk
theorem gd_lcmp (hC : zz_C p c cc nL s m own) {x y : Int} (hx : zz_R x) (hy : zz_R y) (hdg : decode cc pc = .ok (.lcmp, 1)) (kk : Gd_ p l e R s m args below meth c Q N0 G a nL (k) (S) (pc + 1) (lv) (zz_v (zz_cmp3 x y) :: st)) : Gd_ p l e R s m args below meth c Q N0 G a nL (k) (S) (pc) (lv) (zz_l y :: zz_l x :: st) := fun hR H locs ls hP hD hS hl => by
  refine W.lcmp hC.1 hC.2.1 hdg ?_
  have h9 := zz_cmp3_eq hx hy
  first
    | (rw [h9]; exact kk hR H locs ls hP hD hS hl)
    | (have h8 := kk hR H locs ls hP hD hS hl; rw [zz_v, ← h9] at h8; exact h8)
theorem gd_ishl1 (hC : zz_C p c cc nL s m own) {y : Int} (hy : 0 ≤ y ∧ y < 16) (hdg : decode cc pc = .ok (.ishl, 1)) (kk : Gd_ p l e R s m args below meth c Q N0 G a nL (k) (S) (pc + 1) (lv) (zz_v ((2 ^ y.toNat : Nat) : Int) :: st)) : Gd_ p l e R s m args below meth c Q N0 G a nL (k) (S) (pc) (lv) (zz_v y :: zz_v 1 :: st) := fun hR H locs ls hP hD hS hl => lv_ishl hC.1 hC.2.1 hdg (by
  rw [zz_shl hy]
  exact kk hR H locs ls hP hD hS hl)
theorem gd_ishr (hC : zz_C p c cc nL s m own) {x y : Int} (hx : 0 ≤ x ∧ x < 2147483648) (hy : 0 ≤ y ∧ y < 16) (hdg : decode cc pc = .ok (.ishr, 1)) (kk : Gd_ p l e R s m args below meth c Q N0 G a nL (k) (S) (pc + 1) (lv) (zz_v ((x.toNat / 2 ^ y.toNat : Nat) : Int) :: st)) : Gd_ p l e R s m args below meth c Q N0 G a nL (k) (S) (pc) (lv) (zz_v y :: zz_v x :: st) := fun hR H locs ls hP hD hS hl => lv_ishr hC.1 hC.2.1 hdg (by
  rw [zz_shr hx hy]
  exact kk hR H locs ls hP hD hS hl)
theorem gd_iand1 (hC : zz_C p c cc nL s m own) {n : Nat} (hdg : decode cc pc = .ok (.iand, 1)) (kk : Gd_ p l e R s m args below meth c Q N0 G a nL (k) (S) (pc + 1) (lv) (zz_v ((n % 2 : Nat) : Int) :: st)) : Gd_ p l e R s m args below meth c Q N0 G a nL (k) (S) (pc) (lv) (zz_v 1 :: zz_v ((n : Nat) : Int) :: st) := fun hR H locs ls hP hD hS hl => lv_iand hC.1 hC.2.1 hdg (by
  rw [zz_and1]
  exact kk hR H locs ls hP hD hS hl)
theorem gd_ior (hC : zz_C p c cc nL s m own) {x y : Int} (hx : 0 ≤ x ∧ x < 65536) (hy : 0 ≤ y ∧ y < 65536) (hdg : decode cc pc = .ok (.ior, 1)) (kk : Gd_ p l e R s m args below meth c Q N0 G a nL (k) (S) (pc + 1) (lv) (zz_v ((x.toNat ||| y.toNat : Nat) : Int) :: st)) : Gd_ p l e R s m args below meth c Q N0 G a nL (k) (S) (pc) (lv) (zz_v y :: zz_v x :: st) := fun hR H locs ls hP hD hS hl => lv_ior hC.1 hC.2.1 hdg (by
  rw [zz_or hx hy]
  exact kk hR H locs ls hP hD hS hl)
theorem gd_loop {σ : Type} (μ : σ → Nat) (I : σ → Prop) (Sf : σ → zz_S) (lf : σ → List (Nat × Value)) (x0 : σ) (h0 : I x0) (hS : S = Sf x0) (hl : lv = lf x0) (step : ∀ x : σ, I x → (∀ y : σ, I y → μ y < μ x → Gd_ p l e R s m args below meth c Q N0 G a nL (k) (Sf y) (pc) (lf y) (st)) → Gd_ p l e R s m args below meth c Q N0 G a nL (k) (Sf x) (pc) (lf x) (st)) : Gd_ p l e R s m args below meth c Q N0 G a nL (k) (S) (pc) (lv) (st) := by
  subst hS; subst hl
  have key : ∀ (n : Nat) (x : σ), μ x < n → I x → Gd_ p l e R s m args below meth c Q N0 G a nL (k) (Sf x) (pc) (lf x) (st) := by
    intro n
    induction n with
    | zero => intro x h; omega
    | succ n ih => intro x h hI; exact step x hI (fun y hy hm => ih y (by omega) hy)
  exact key (μ x0 + 1) x0 (by omega) h0
theorem gd_max (hC : zz_C p c cc nL s m own) {index : Nat} {x y : Int} (hlink : (Cond.methodLink own index Lib.Math.max.name).before args s = true) (hstat : (Cond.static Lib.Math.max.name).before args s = true) (hini : (Cond.initialized "java/lang/Math").before args s = true) (hcode : (Cond.code Lib.Math.max.name Lib.Math.max.code 2 (some .int)).before args s = true)
    (hfr : 1 ≤ R.frames) (hlo : (st.map fun v => v.category).sum + 13 ≤ R.locals) (hc : k ≤ R.cells) (hs : 6 * k ≤ R.slots) (hx : zz_R x) (hy : zz_R y) (hdg : decode cc pc = .ok (.invokestatic index, 3)) (kk : Gd_ p l e R s m args below meth c Q N0 G a nL (k) (S) (pc + 3) (lv) (zz_v (if x < y then y else x) :: st)) : Gd_ p l e R s m args below meth c Q N0 G a nL (k) (S) (pc) (lv) (zz_v y :: zz_v x :: st) := fun hR H locs ls hP hD hS hl => by
  refine va_mmax hC.1 hC.2.1 (hC.2.2.1.trans hl.1.symm) hC.2.2.2 hlink hstat hini hcode hfr hlo hc hs hdg ?_
  have h9 : (if Int32.ofInt x < Int32.ofInt y then Int32.ofInt y else Int32.ofInt x) = Int32.ofInt (if x < y then y else x) := by
    by_cases h : x < y
    · rw [if_pos h, if_pos ((zz_lt hx hy).mpr h)]
    · rw [if_neg h, if_neg (fun z => h ((zz_lt hx hy).mp z))]
  rw [h9]
  exact kk hR H locs ls hP hD hS hl
end ZH
/-- a contract out of the walk of its body -/
theorem Ct_.of {l : Launch} {y : MethodName} {ws ws' : List Cond} {rm : Room} {K : Nat} {av : List Value} {N0 : Nat} {G : zz_G} {Y : zz_Y} {a : Nat → Nat} {S : zz_S} {post : Option Value → zz_S → Prop} {px : String → zz_S → Prop} {cc : ByteArray} {maxL : Nat} {ret : Option FieldType}
    (hy : plainName y.cls = true) (hw : ws = Cond.code y cc maxL ret :: ws') (hlen : (lg_sl av).length ≤ maxL)
    (body : ∀ (p : Program) (e : Env) (s : State) (m : MethodId) (args : Array Value) (below : List Frame) (meth : Method) (c : Code), zz_C p c cc maxL s m y.cls → (∀ w ∈ ws, w.before args s = true) → meth.sig.returnType = ret → meth.locks = false → (∀ x ∈ c.exceptionTable.toList, False) → zz_F s N0 G Y →
      Gd_ p l e rm s m args below meth c (vx_MQ below (zz_Q N0 G a post) (zz_X N0 G a px) args s K (6 * K) (zz_A N0)) N0 G a maxL 0 S 0 (lv_args 0 av) []) : Ct_ l y ws rm K av N0 G Y a S post px := by
  refine vx_ofW hy hw ?_
  intro p e s m args below meth c s₁ B hml ht hv
  obtain ⟨rfl, h1, h2, h3, h4, h5, h6⟩ := hv
  have hl := lv_entry av (n := maxL) hlen
  have hg := body p e s m av.toArray below meth c ⟨B.exec, B.bytes, hml, findClass_of_methodNamed B.named⟩ (atoms_spec (ws := ws) B.pre) B.returns B.notSynchronized ht ⟨h1, h3, h6⟩ h5 s.heap [] _ h2 h4 va_S.rf hl
  rw [lg_entry_eq]
  exact hg

