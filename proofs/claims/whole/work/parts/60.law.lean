/-! THE CLAIM OUT OF ONE WALK OF THE LAW'S BODY. Your part is whole_start (and what it stands on); all else here is the same for every law, but numbers. -/
def R_law : String := "GrievancehallLaw"
def lw_P (b : Addr) (xs : List Int32) (args : Array Value) (s : State) : Prop := args = #[.ref b] ∧ s.IntsAt b xs ∧ xs.length ≤ 2048 ∧ (Jvm.Cond.and given_1 narrow_1).before args s = true
def lw_Q (_ : Array Value) (s : State) (o : Outcome) (t : State) : Prop := o = .returned (some (.int 1)) ∧ Framed s o t [] 601024 7293033
def lw_Z (below : List Frame) (a : Array Value) (s : State) : State → Prop := fun t => ∃ o, t.status = .running ∧ Ended t below o ∧ lw_Q a s o t
/-- the law's own end, with 1 on the stack, nothing written that was there before, its room as the claim has it -/
theorem lw_ret {p : Program} {l : Launch} {e : Env} {s : State} {m : MethodId} {below : List Frame} {meth : Method} {c : Code} {b : Nat} (hx : p.tables.exec = Jvm.exec) (hb : c.code = code) (hr : meth.sig.returnType = ret) (hlocks : meth.locks = false) {pc : Nat} {H : Heap} {ls : Array Slot} (hdg : decode code pc = .ok (.ireturn, 1)) : W p l e room_1 s m #[Value.ref b] below meth c H [] 601024 7293033 (lw_Z below #[Value.ref b] s) (F0 m pc ls [.int 1]) := by
  intro T hT X
  obtain ⟨fs, hret, hrun, hended, hW, hframe⟩ := X.leave (v := some (.int 1)) (hlocks := hlocks) (fun h => by rw [hr] at h; cases h)
  have hmeth' : T.vm.method? m = some meth := X.method'
  refine ⟨T.setFrames fs, ?_, .returned (some (.int 1)), hrun, hended, rfl, ⟨_, rfl⟩, hW, hframe⟩
  jvm_step X.here [X.here.top, hx, hb, hdg, hmeth', hr, ret, narrow_b1]
  (try refine ⟨rfl, ?_⟩); (try refine ⟨rfl, ?_⟩)
  first | (intro acts; rw [hret _ acts rfl rfl rfl]) | rw [hret _ _ rfl rfl rfl]
  exact Steps.refl _
/-- what holds at the law's entry: the machine, the code, the tables' words (any of lw_tbl by 'hts w (by decide +kernel)'), the script of L ints xs at the cell b, what the Statement gives of the start (any of its parts by flat_of_before) -/
def lw_At (p : Program) (s : State) (m : MethodId) (meth : Method) (c : Code) (b L : Nat) (xs : Nat → Int32) : Prop :=
  p.tables.exec = Jvm.exec ∧ c.code = code ∧ meth.sig.returnType = ret ∧ c.maxLocals = 7 ∧ s.vm.findClass R_law = some m.cls ∧ (∀ w ∈ lw_tbl, w.before #[Value.ref b] s = true) ∧ va_X b L xs s s.heap ∧ b < s.heap.size ∧ meth.locks = false ∧ (Jvm.Cond.and given_1 narrow_1).before #[Value.ref b] s = true

theorem zz_a31 (z : Int) : Int32.ofInt z &&& Int32.ofInt 31 = Int32.ofInt (z % 32) := by
  apply Int32.toBitVec_inj.1
  rw [Int32.toBitVec_and, Int32.toBitVec_ofInt, Int32.toBitVec_ofInt, Int32.toBitVec_ofInt]
  apply BitVec.eq_of_toNat_eq
  rw [BitVec.toNat_and, BitVec.toNat_ofInt, BitVec.toNat_ofInt, BitVec.toNat_ofInt, show (31 % ((2 ^ 32 : Nat) : Int)).toNat = 2 ^ 5 - 1 from by decide, Nat.and_two_pow_sub_one_eq_mod]
  omega
section ZL
variable {p : Program} {l : Launch} {e : Env} {R : Room} {s : State} {m : MethodId} {args : Array Value} {below : List Frame} {meth : Method} {c : Code} {Q : State → Prop} {N0 : Nat} {G : zz_G} {a : Nat → Nat} {nL k : Nat} {S : zz_S} {pc : Nat} {lv : List (Nat × Value)} {st : List Value} {cc : ByteArray} {own : String}
theorem gd_sld (hC : zz_C p c cc nL s m own) {b L j : Nat} {xs : Nat → Int32} {i : Int} (hX : va_X b L xs s s.heap) (hbl : b < s.heap.size) (hN : N0 = s.heap.size) (hL : L ≤ 2048) (hi : i = (j : Int)) (hj : j < L) (hdg : decode cc pc = .ok (.iaload, 1)) (kk : Gd_ p l e R s m args below meth c Q N0 G a nL k S (pc + 1) lv (zz_v (xs j).toInt :: st)) : Gd_ p l e R s m args below meth c Q N0 G a nL k S pc lv (zz_v i :: .ref b :: st) := fun hR H locs ls hP hD hS hl => by
  subst hN
  refine va_sld hC.1 hC.2.1 hX hbl (show ¬ zz_A s.heap.size b from Nat.not_le.mpr hbl) hS (zz_in hi hj (by omega)) hdg ?_
  rw [zz_cl hi (by omega), show (Value.int (xs j)) = zz_v (xs j).toInt from by rw [zz_v, zz_asI]]
  exact kk hR H locs ls hP hD hS hl
theorem gd_sln (hC : zz_C p c cc nL s m own) {b L : Nat} {xs : Nat → Int32} (hX : va_X b L xs s s.heap) (hbl : b < s.heap.size) (hN : N0 = s.heap.size) (hdg : decode cc pc = .ok (.arraylength, 1)) (kk : Gd_ p l e R s m args below meth c Q N0 G a nL k S (pc + 1) lv (zz_v (L : Int) :: st)) : Gd_ p l e R s m args below meth c Q N0 G a nL k S pc lv (.ref b :: st) := fun hR H locs ls hP hD hS hl => by
  subst hN
  refine va_slen hC.1 hC.2.1 hX hbl (show ¬ zz_A s.heap.size b from Nat.not_le.mpr hbl) hS hdg ?_
  rw [show (Value.int (Int32.ofNat L)) = zz_v (L : Int) from by rw [zz_v, Int32.ofInt_eq_ofNat]]
  exact kk hR H locs ls hP hD hS hl
theorem gd_iand31 (hC : zz_C p c cc nL s m own) {z : Int} (hdg : decode cc pc = .ok (.iand, 1)) (kk : Gd_ p l e R s m args below meth c Q N0 G a nL k S (pc + 1) lv (zz_v (z % 32) :: st)) : Gd_ p l e R s m args below meth c Q N0 G a nL k S pc lv (zz_v 31 :: zz_v z :: st) := fun hR H locs ls hP hD hS hl => lv_iand hC.1 hC.2.1 hdg (by
  rw [zz_a31]
  exact kk hR H locs ls hP hD hS hl)
theorem gd_callL {y : MethodName} {bytes : ByteArray} {hh : List (Nat × Nat × Nat × Nat)} {maxL index n K : Nat} {ret : Option FieldType} {ws : List Cond} {rm : Room} {Y : zz_Y} {As rest : List Value} {S1 : zz_S} {e1 n1 n2 n3 : Int} {F X1 X2 X3 : Prop} (hC : zz_C p c cc nL s m own) (hF : zz_F s N0 G Y)
    (hM : CtL l y ws rm K As N0 G Y a S S1 e1 F X1 X2 X3 n1 n2 n3) (cw : vx_CSW R s args own index y bytes maxL ret hh ws rm K (6 * K) n) (hn : As.length = n) (hst : st = As.reverse ++ rest) (hW : (rest.map fun v => v.category).sum ≤ 8) (hdg : decode cc pc = .ok (.invokestatic index, 3)) (hf : k + K ≤ R.cells ∧ 6 * (k + K) ≤ R.slots)
    (kk : ∀ (r : Int) (S' : zz_S), zz_R r → zz_wp S S1 e1 F X1 X2 X3 n1 n2 n3 r S' → Gd_ p l e R s m args below meth c Q N0 G a nL (k + K) S' (pc + 3) lv (zz_v r :: rest)) : Gd_ p l e R s m args below meth c Q N0 G a nL k S pc lv st :=
  gd_callSX hC hF (fun _ => hM) cw hn hst hW hdg hf (fun E S' h => h.elim) (fun v S' h => by
    obtain ⟨r, hr, rfl, hw⟩ := h
    exact kk r S' hr hw)
end ZL
/-- what holds in every step of the law's loop -/
def zq_ (p : Program) (s : State) (m : MethodId) (meth : Method) (c : Code) (b L : Nat) (xs : Nat → Int32) (G : zz_G) (Y : zz_Y) : Prop :=
  zz_C p c code 7 s m RL ∧ (∀ w ∈ wsL_law, w.before #[Value.ref b] s = true) ∧ va_X b L xs s s.heap ∧ b < s.heap.size ∧ L ≤ 2048 ∧ zz_F s s.heap.size G Y ∧ meth.sig.returnType = ret ∧ meth.locks = false
abbrev zg_ (p : Program) (l : Launch) (e : Env) (s : State) (m : MethodId) (b : Nat) (below : List Frame) (meth : Method) (c : Code) (G : zz_G) (a : Nat → Nat) (k : Nat) (S : zz_S) (pc : Nat) (lv : List (Nat × Value)) (st : List Value) : Prop :=
  Gd_ p l e room_1 s m #[Value.ref b] below meth c (lw_Z below #[Value.ref b] s) s.heap.size G a 7 k S pc lv st
abbrev zv_ (b : Nat) (a : Nat → Nat) (n : Nat) : List (Nat × Value) := [(0, .ref b), (1, .ref (a 0)), (2, .ref (a 77)), (3, .ref (a 99)), (4, zz_v ((4 * n : Nat) : Int))]
theorem zg_room {n K : Nat} (hn : n < 512) (hK : K ≤ 8) : 20000 + 4 * n + K ≤ room_1.cells ∧ 6 * (20000 + 4 * n + K) ≤ room_1.slots := ⟨show _ ≤ 601024 by omega, show _ ≤ 7293033 by omega⟩
theorem zz_cmp0 (x : Int) : zz_cmp3 x x = 0 := by
  unfold zz_cmp3
  rw [if_neg (by omega), if_pos rfl]

section ZM
variable {p : Program} {l : Launch} {e : Env} {R : Room} {s : State} {m : MethodId} {args : Array Value} {below : List Frame} {meth : Method} {c : Code} {Q : State → Prop} {N0 : Nat} {G : zz_G} {a : Nat → Nat} {nL k : Nat} {S : zz_S} {pc : Nat} {lv : List (Nat × Value)} {st : List Value} {cc : ByteArray} {own : String}
/-- x != 0, as javac lays it -/
theorem gd_bool (hC : zz_C p c cc nL s m own) {x off o2 : Int} {t t2 : Nat} (d1 : decode cc pc = .ok (.ifCond .eq off, 3)) (ht : (pc : Int) + off = (t : Int)) (hx : zz_R x) (d2 : decode cc (pc + 3) = .ok (.iconst 1, 1)) (d3 : decode cc (pc + 3 + 1) = .ok (.goto o2, 3)) (ht2 : ((pc + 3 + 1 : Nat) : Int) + o2 = (t2 : Int)) (d4 : decode cc t = .ok (.iconst 0, 1)) (h4 : t + 1 = t2)
    (kk : Gd_ p l e R s m args below meth c Q N0 G a nL k S t2 lv (zz_v (if x = 0 then 0 else 1) :: st)) : Gd_ p l e R s m args below meth c Q N0 G a nL k S pc lv (zz_v x :: st) := by
  refine gd_if_eq hC d1 ht hx (fun c1 => ?_) (fun c1 => ?_)
  · refine gd_iconst hC d4 ?_
    rw [if_pos c1] at kk
    rw [h4]
    exact kk
  · refine gd_iconst hC d2 ?_
    refine gd_goto hC d3 ht2 ?_
    rw [if_neg c1] at kk
    exact kk
end ZM
