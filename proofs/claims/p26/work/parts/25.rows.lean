/-! more rows over a hall's world: shifts, remainders, longs, the script, an array beside the hall -/
theorem zz_a31 (z : Int) : Int32.ofInt z &&& Int32.ofInt 31 = Int32.ofInt (z % 32) := by
  apply Int32.toBitVec_inj.1
  rw [Int32.toBitVec_and, Int32.toBitVec_ofInt, Int32.toBitVec_ofInt, Int32.toBitVec_ofInt]
  apply BitVec.eq_of_toNat_eq
  rw [BitVec.toNat_and, BitVec.toNat_ofInt, BitVec.toNat_ofInt, BitVec.toNat_ofInt, show (31 % ((2 ^ 32 : Nat) : Int)).toNat = 2 ^ 5 - 1 from by decide, Nat.and_two_pow_sub_one_eq_mod]
  omega
theorem zz_us1 (x : Int32) : 0 ≤ ((x.toUInt32 >>> ((Int32.ofInt 1).toUInt32 &&& Int32.toUInt32 31)).toInt32).toInt := by
  have h1 : (Int32.ofInt 1).toUInt32 &&& Int32.toUInt32 31 = 1 := by decide +kernel
  rw [h1]
  have h2 : (x.toUInt32 >>> 1).toNat < 2147483648 := by
    rw [UInt32.toNat_shiftRight]
    have h3 := x.toUInt32.toNat_lt
    rw [show (1 : UInt32).toNat % 32 = 1 from rfl, Nat.shiftRight_eq_div_pow]
    omega
  have h4 : ((x.toUInt32 >>> 1).toInt32).toInt = ((x.toUInt32 >>> 1).toNat : Int) := by
    show (x.toUInt32 >>> 1).toBitVec.toInt = _
    rw [BitVec.toInt_eq_toNat_of_lt (show 2 * (x.toUInt32 >>> 1).toBitVec.toNat < 2 ^ 32 from by
      have h5 : (x.toUInt32 >>> 1).toBitVec.toNat = (x.toUInt32 >>> 1).toNat := rfl
      rw [h5]; omega)]
    rfl
  rw [h4]
  omega
theorem zz_div32 {x y : Int} (hx : 0 ≤ x ∧ x < 2147483648) (hy : 0 < y ∧ y < 2147483648) : Int32.ofInt x / Int32.ofInt y = Int32.ofInt (x / y) := by
  have hX : zz_R x := ⟨by omega, by omega⟩
  have hY : zz_R y := ⟨by omega, by omega⟩
  rw [← Int32.toInt_inj, Int32.toInt_div_of_ne_right _ _ (fun q => by have q2 := congrArg Int32.toInt q; rw [zz_ti hY, show (-1 : Int32).toInt = -1 from rfl] at q2; omega), zz_ti hX, zz_ti hY, Int.tdiv_eq_ediv_of_nonneg hx.1, zz_ti]
  have d1 : 0 ≤ x / y := Int.ediv_nonneg hx.1 (by omega)
  have d2 : x / y ≤ x := Int.ediv_le_self _ hx.1
  exact ⟨by omega, by omega⟩
theorem zz_rem32 {x y : Int} (hx : 0 ≤ x ∧ x < 2147483648) (hy : 0 < y ∧ y < 2147483648) : Int32.ofInt x - Int32.ofInt x / Int32.ofInt y * Int32.ofInt y = Int32.ofInt (x % y) := by
  rw [zz_div32 hx hy, ← Int32.ofInt_mul, ← Int32.ofInt_sub]
  congr 1
  rw [Int.emod_def, Int.mul_comm]
theorem zz_cmpS (h : Int64) : lg_cmp h h = Int32.ofInt 0 := by
  have h1 : ¬ h < h := by rw [Int64.lt_iff_toInt_lt]; omega
  simp [lg_cmp, h1]

section ZH2
variable {p : Program} {l : Launch} {e : Env} {R : Room} {s : State} {m : MethodId} {args : Array Value} {below : List Frame} {meth : Method} {c : Code} {Q : State → Prop} {N0 : Nat} {G : zz_G} {a : Nat → Nat} {nL k : Nat} {S : zz_S} {pc : Nat} {lv : List (Nat × Value)} {st : List Value} {cc : ByteArray} {own : String}

theorem gd_iushr1 (hC : zz_C p c cc nL s m own) {x : Int} (hdg : decode cc pc = .ok (.iushr, 1)) (kk : ∀ z : Int, 0 ≤ z ∧ z < 2147483648 → Gd_ p l e R s m args below meth c Q N0 G a nL (k) (S) (pc + 1) (lv) (zz_v z :: st)) : Gd_ p l e R s m args below meth c Q N0 G a nL (k) (S) (pc) (lv) (zz_v 1 :: zz_v x :: st) := fun hR H locs ls hP hD hS hl => lv_iushr hC.1 hC.2.1 hdg rfl (by
  have h9 := kk (((Int32.ofInt x).toUInt32 >>> ((Int32.ofInt 1).toUInt32 &&& Int32.toUInt32 31)).toInt32).toInt ⟨zz_us1 _, by have h8 := zz_rng (((Int32.ofInt x).toUInt32 >>> ((Int32.ofInt 1).toUInt32 &&& Int32.toUInt32 31)).toInt32); exact h8.2⟩ hR H locs ls hP hD hS hl
  rw [zz_v, zz_asI] at h9
  exact h9)
theorem gd_iushrX (hC : zz_C p c cc nL s m own) {x y : Int} (hdg : decode cc pc = .ok (.iushr, 1)) (kk : ∀ z : Int, zz_R z → Gd_ p l e R s m args below meth c Q N0 G a nL (k) (S) (pc + 1) (lv) (zz_v z :: st)) : Gd_ p l e R s m args below meth c Q N0 G a nL (k) (S) (pc) (lv) (zz_v y :: zz_v x :: st) := fun hR H locs ls hP hD hS hl => lv_iushr hC.1 hC.2.1 hdg rfl (by
  have h9 := kk _ (zz_rng (((Int32.ofInt x).toUInt32 >>> ((Int32.ofInt y).toUInt32 &&& Int32.toUInt32 31)).toInt32)) hR H locs ls hP hD hS hl
  rw [zz_v, zz_asI] at h9
  exact h9)
theorem gd_ixorX (hC : zz_C p c cc nL s m own) {x y : Int} (hdg : decode cc pc = .ok (.ixor, 1)) (kk : ∀ z : Int, zz_R z → Gd_ p l e R s m args below meth c Q N0 G a nL (k) (S) (pc + 1) (lv) (zz_v z :: st)) : Gd_ p l e R s m args below meth c Q N0 G a nL (k) (S) (pc) (lv) (zz_v y :: zz_v x :: st) := fun hR H locs ls hP hD hS hl => lv_ixor hC.1 hC.2.1 hdg (by
  have h9 := kk _ (zz_rng (Int32.ofInt x ^^^ Int32.ofInt y)) hR H locs ls hP hD hS hl
  rw [zz_v, zz_asI] at h9
  exact h9)
theorem gd_anyI {x : Int} (kk : ∀ z : Int, zz_R z → Gd_ p l e R s m args below meth c Q N0 G a nL (k) (S) (pc) (lv) (zz_v z :: st)) : Gd_ p l e R s m args below meth c Q N0 G a nL (k) (S) (pc) (lv) (zz_v x :: st) := by
  have h9 := kk (Int32.ofInt x).toInt (zz_rng _)
  rw [zz_v, zz_asI] at h9
  exact h9
theorem gd_irem (hC : zz_C p c cc nL s m own) {x y : Int} (hdg : decode cc pc = .ok (.irem, 1)) (hx : 0 ≤ x ∧ x < 2147483648) (hy : 0 < y ∧ y < 2147483648) (kk : Gd_ p l e R s m args below meth c Q N0 G a nL (k) (S) (pc + 1) (lv) (zz_v (x % y) :: st)) : Gd_ p l e R s m args below meth c Q N0 G a nL (k) (S) (pc) (lv) (zz_v y :: zz_v x :: st) := fun hR H locs ls hP hD hS hl => lv_irem hC.1 hC.2.1 hdg (fun q => by have q2 := (zz_eq0 (show zz_R y from ⟨by omega, by omega⟩)).mp q; omega) (by
  rw [zz_rem32 hx hy]
  exact kk hR H locs ls hP hD hS hl)
theorem gd_iand31 (hC : zz_C p c cc nL s m own) {z : Int} (hdg : decode cc pc = .ok (.iand, 1)) (kk : Gd_ p l e R s m args below meth c Q N0 G a nL (k) (S) (pc + 1) (lv) (zz_v (z % 32) :: st)) : Gd_ p l e R s m args below meth c Q N0 G a nL (k) (S) (pc) (lv) (zz_v 31 :: zz_v z :: st) := fun hR H locs ls hP hD hS hl => lv_iand hC.1 hC.2.1 hdg (by
  rw [zz_a31]
  exact kk hR H locs ls hP hD hS hl)
theorem gd_sld (hC : zz_C p c cc nL s m own) {b L j : Nat} {xs : Nat → Int32} {i : Int} (hX : va_X b L xs s s.heap) (hbN : b < N0) (hN : N0 ≤ s.heap.size) (hL : L ≤ 260) (hi : i = (j : Int)) (hj : j < L) (hdg : decode cc pc = .ok (.iaload, 1)) (kk : Gd_ p l e R s m args below meth c Q N0 G a nL (k) (S) (pc + 1) (lv) (zz_v (xs j).toInt :: st)) : Gd_ p l e R s m args below meth c Q N0 G a nL (k) (S) (pc) (lv) (zz_v i :: .ref b :: st) := fun hR H locs ls hP hD hS hl => by
  refine va_sld hC.1 hC.2.1 hX (Nat.lt_of_lt_of_le hbN hN) (show ¬ zz_A N0 b from Nat.not_le.mpr hbN) hS (zz_in hi hj (by omega)) hdg ?_
  rw [zz_cl hi (by omega), show (Value.int (xs j)) = zz_v (xs j).toInt from by rw [zz_v, zz_asI]]
  exact kk hR H locs ls hP hD hS hl
theorem gd_sln (hC : zz_C p c cc nL s m own) {b L : Nat} {xs : Nat → Int32} (hX : va_X b L xs s s.heap) (hbN : b < N0) (hN : N0 ≤ s.heap.size) (hdg : decode cc pc = .ok (.arraylength, 1)) (kk : Gd_ p l e R s m args below meth c Q N0 G a nL (k) (S) (pc + 1) (lv) (zz_v (L : Int) :: st)) : Gd_ p l e R s m args below meth c Q N0 G a nL (k) (S) (pc) (lv) (.ref b :: st) := fun hR H locs ls hP hD hS hl => by
  refine va_slen hC.1 hC.2.1 hX (Nat.lt_of_lt_of_le hbN hN) (show ¬ zz_A N0 b from Nat.not_le.mpr hbN) hS hdg ?_
  rw [show (Value.int (Int32.ofNat L)) = zz_v (L : Int) from by rw [zz_v, Int32.ofInt_eq_ofNat]]
  exact kk hR H locs ls hP hD hS hl
theorem gd_tald (hC : zz_C p c cc nL s m own) (hK : va_K G.1 vwCl (zz_T G) s) {q n j ad : Nat} {i : Int} {row : Nat → Int} (hq : G.2.2[q]? = some (ad, .inl (G.2.1 0, n, .inl (fun x => Int32.ofInt (row x))))) (hi : i = (j : Int)) (hj : j < n) (hn : n < 2147483648) (hdg : decode cc pc = .ok (.iaload, 1)) (kk : Gd_ p l e R s m args below meth c Q N0 G a nL (k) (S) (pc + 1) (lv) (zz_v (row j) :: st)) : Gd_ p l e R s m args below meth c Q N0 G a nL (k) (S) (pc) (lv) (zz_v i :: .ref ad :: st) := fun hR H locs ls hP hD hS hl => va_iald hC.1 hC.2.1 hK hP (77 + q) 0 (by
  unfold zz_W
  rw [List.getElem?_append_right (by rw [List.length_map, List.length_range]; omega), List.length_map, List.length_range, Nat.add_sub_cancel_left, hq]) rfl (zz_in hi hj hn) hdg (by rw [zz_cl hi (by omega)]; exact kk hR H locs ls hP hD hS hl)
theorem gd_ldc2 (hC : zz_C p c cc nL s m own) {n : Int} {index : Nat} (hw : (Cond.constantLong own index (Int64.ofInt n)).before args s = true) (hdg : decode cc pc = .ok (.ldc2_w index, 3)) (kk : Gd_ p l e R s m args below meth c Q N0 G a nL (k) (S) (pc + 3) (lv) (zz_l n :: st)) : Gd_ p l e R s m args below meth c Q N0 G a nL (k) (S) (pc) (lv) (st) := fun hR H locs ls hP hD hS hl => lv_ldc2 hC.1 hC.2.1 hC.2.2.2 hw hdg (kk hR H locs ls hP hD hS hl)
theorem gd_lload_n (hC : zz_C p c cc nL s m own) {q : Fin 4} {i j : Nat} {z : Int} (hdg : decode cc pc = .ok (.lload_n q, 1)) (hi : (q : Nat) = i) (hj : lv[j]? = some (i, zz_l z)) (kk : Gd_ p l e R s m args below meth c Q N0 G a nL (k) (S) (pc + 1) (lv) (zz_l z :: st)) : Gd_ p l e R s m args below meth c Q N0 G a nL (k) (S) (pc) (lv) (st) := fun hR H locs ls hP hD hS hl => lv_lload_n hC.1 hC.2.1 hdg hi (lv_at hl j hj) (kk hR H locs ls hP hD hS hl)
theorem gd_lstore_n (hC : zz_C p c cc nL s m own) {q : Fin 4} {i : Nat} {z : Int} {lv' : List (Nat × Value)} (hdg : decode cc pc = .ok (.lstore_n q, 1)) (hi : (q : Nat) = i) (hn : i + 1 < nL) (hl' : (i, zz_l z) :: lv.filter (fun q => !(q.1 == i) && (!(q.1 == i + 1) && !(q.1 + 1 == i && q.2.category == 2))) = lv') (kk : Gd_ p l e R s m args below meth c Q N0 G a nL (k) (S) (pc + 1) (lv') (st)) : Gd_ p l e R s m args below meth c Q N0 G a nL (k) (S) (pc) (lv) (zz_l z :: st) := fun hR H locs ls hP hD hS hl => lv_lstore_n hC.1 hC.2.1 hdg hi hl hn hl' (fun ls' hl2 => kk hR H locs ls' hP hD hS hl2)
theorem gd_lmul (hC : zz_C p c cc nL s m own) {x y : Int} (hdg : decode cc pc = .ok (.lmul, 1)) (kk : Gd_ p l e R s m args below meth c Q N0 G a nL (k) (S) (pc + 1) (lv) (zz_l (x * y) :: st)) : Gd_ p l e R s m args below meth c Q N0 G a nL (k) (S) (pc) (lv) (zz_l y :: zz_l x :: st) := fun hR H locs ls hP hD hS hl => lv_lmul hC.1 hC.2.1 hdg (by rw [← Int64.ofInt_mul]; exact kk hR H locs ls hP hD hS hl)
theorem gd_ladd (hC : zz_C p c cc nL s m own) {x y : Int} (hdg : decode cc pc = .ok (.ladd, 1)) (kk : Gd_ p l e R s m args below meth c Q N0 G a nL (k) (S) (pc + 1) (lv) (zz_l (x + y) :: st)) : Gd_ p l e R s m args below meth c Q N0 G a nL (k) (S) (pc) (lv) (zz_l y :: zz_l x :: st) := fun hR H locs ls hP hD hS hl => lv_ladd hC.1 hC.2.1 hdg (by rw [← Int64.ofInt_add]; exact kk hR H locs ls hP hD hS hl)
theorem gd_lcmpS (hC : zz_C p c cc nL s m own) {x : Int} (hdg : decode cc pc = .ok (.lcmp, 1)) (kk : Gd_ p l e R s m args below meth c Q N0 G a nL (k) (S) (pc + 1) (lv) (zz_v 0 :: st)) : Gd_ p l e R s m args below meth c Q N0 G a nL (k) (S) (pc) (lv) (zz_l x :: zz_l x :: st) := fun hR H locs ls hP hD hS hl => W.lcmp hC.1 hC.2.1 hdg (by
  rw [zz_cmpS]
  exact kk hR H locs ls hP hD hS hl)
theorem gd_lreturn {mc : Nat} {z : Int} {post : Option Value → zz_S → Prop} {px : String → zz_S → Prop} (hC : zz_C p c cc nL s m own) (hr : meth.sig.returnType = some .long) (hlocks : meth.locks = false) (hdg : decode cc pc = .ok (.lreturn, 1)) (hk : k ≤ mc) (hp : post (some (zz_l z)) S) : Gd_ p l e R s m args below meth c (vx_MQ below (zz_Q N0 G a post) (zz_X N0 G a px) args s mc (6 * mc) (zz_A N0)) N0 G a nL k S pc lv [zz_l z] := by
  intro hR H locs ls hP hD hS hl
  refine vx_ret (W.widen hk (show 6 * k ≤ 6 * mc by omega) ?_)
  exact W.lret hC.1 hC.2.1 hr (fun t ht hW => ⟨⟨_, S, rfl, hp, by rw [ht]; exact hP, hD, hR⟩, hS.F ht⟩) hS.2.2 hdg hlocks
/-- a loop whose rounds take room -/
theorem gd_loopK {σ : Type} (μ : σ → Nat) (I : σ → Prop) (kf : σ → Nat) (lf : σ → List (Nat × Value)) (x0 : σ) (h0 : I x0) (hk : k = kf x0) (hl : lv = lf x0) (step : ∀ x : σ, I x → (∀ y : σ, I y → μ y < μ x → Gd_ p l e R s m args below meth c Q N0 G a nL (kf y) (S) (pc) (lf y) (st)) → Gd_ p l e R s m args below meth c Q N0 G a nL (kf x) (S) (pc) (lf x) (st)) : Gd_ p l e R s m args below meth c Q N0 G a nL (k) (S) (pc) (lv) (st) := by
  subst hk; subst hl
  have key : ∀ (n : Nat) (x : σ), μ x < n → I x → Gd_ p l e R s m args below meth c Q N0 G a nL (kf x) (S) (pc) (lf x) (st) := by
    intro n
    induction n with
    | zero => intro x h; omega
    | succ n ih => intro x h hI; exact step x hI (fun y hy hm => ih y (by omega) hy)
  exact key (μ x0 + 1) x0 (by omega) h0
theorem gd_sup {k' : Nat} (h : k = k') (kk : Gd_ p l e R s m args below meth c Q N0 G a nL (k') (S) (pc) (lv) (st)) : Gd_ p l e R s m args below meth c Q N0 G a nL (k) (S) (pc) (lv) (st) := by
  subst h; exact kk
/-- a question: nothing thrown, nothing altered -/
theorem gd_ask {y : MethodName} {bytes : ByteArray} {maxL index n K : Nat} {ret : Option FieldType} {ws : List Cond} {rm : Room} {Y : zz_Y} {As rest : List Value} {e1 : Int} {F X1 X2 X3 : Prop} (hC : zz_C p c cc nL s m own) (hF : zz_F s N0 G Y)
    (hM : zz_Rg S → CtR l y ws rm K (.ref (a 0) :: As) N0 G Y a S e1 S F X1 X2 X3) (hX : ¬ X1 ∧ ¬ X2 ∧ ¬ X3) (cw : CallW R s args own RX3 index y bytes maxL ret ws rm K (6 * K) n) (hn : As.length = n) (hst : st = As.reverse ++ .ref (a 0) :: rest) (hW : (rest.map fun v => v.category).sum ≤ 8) (hdg : decode cc pc = .ok (.invokevirtual index, 3)) (hf : k + K ≤ R.cells ∧ 6 * (k + K) ≤ R.slots)
    (kk : F → zz_R e1 → Gd_ p l e R s m args below meth c Q N0 G a nL (k + K) (S) (pc + 3) (lv) (zz_v e1 :: rest)) : Gd_ p l e R s m args below meth c Q N0 G a nL (k) (S) (pc) (lv) (st) :=
  gd_callVR hC hF hM cw (b := 0) (ci := 3) rfl (by decide) rfl rfl hn hst hW hdg hf (fun E h => by
    rcases h with ⟨-, h⟩ | ⟨-, h⟩ | ⟨-, h⟩
    · exact (hX.1 h).elim
    · exact (hX.2.1 h).elim
    · exact (hX.2.2 h).elim) kk
end ZH2
