theorem zz_a255 {z : Int} (h : 0 ≤ z ∧ z < 128) : Int32.ofInt z &&& Int32.ofInt 255 = Int32.ofInt z := by
  have key : ∀ n : Nat, n < 128 → nI n &&& nI 255 = nI n := by decide +kernel
  obtain ⟨n, rfl⟩ : ∃ n : Nat, z = (n : Int) := ⟨z.toNat, by omega⟩
  rw [zz_nN]
  exact key n (by omega)
theorem zz_i2c (z : Int) : ((Int32.ofInt z).toUInt32 % 65536).toInt32 = Int32.ofInt (z % 65536) := by
  rw [pk_char]
  have h1 : ((Int32.ofInt z).toBitVec.toNat : Int) = z % 4294967296 := by
    rw [Int32.toBitVec_ofInt, BitVec.toNat_ofInt]
    omega
  obtain ⟨n, hn⟩ : ∃ n : Nat, z % 65536 = (n : Int) := ⟨(z % 65536).toNat, by omega⟩
  rw [hn, zz_nN]
  congr 1
  omega
theorem zz_ncV {z : Int} (h : 0 ≤ z ∧ z < 65536) : narrow .char (zz_v z) = zz_v z := by
  obtain ⟨n, rfl⟩ : ∃ n : Nat, z = (n : Int) := ⟨z.toNat, by omega⟩
  unfold zz_v
  rw [zz_nN]
  exact (pk_charN (by omega)).1
theorem zz_sh0 (x : Int32) : x >>> (Int32.ofInt 0 &&& 31) = x := by
  have h := pk_shr x (Int32.ofInt 0 &&& 31) 0 (by decide +kernel)
  rw [← Int32.toInt_inj, h, Int.shiftRight_zero]

section ZS
variable {p : Program} {l : Launch} {e : Env} {R : Room} {s : State} {m : MethodId} {args : Array Value} {below : List Frame} {meth : Method} {c : Code} {Q : State → Prop} {N0 : Nat} {G : zz_G} {Y : zz_Y} {a : Nat → Nat} {nL k : Nat} {S : zz_S} {pc : Nat} {lv : List (Nat × Value)} {st : List Value} {cc : ByteArray} {own : String}

theorem gd_iand255 (hC : zz_C p c cc nL s m own) {z : Int} (hz : 0 ≤ z ∧ z < 128) (hdg : decode cc pc = .ok (.iand, 1)) (kk : Gd_ p l e R s m args below meth c Q N0 G a nL (k) (S) (pc + 1) (lv) (zz_v z :: st)) : Gd_ p l e R s m args below meth c Q N0 G a nL (k) (S) (pc) (lv) (zz_v 255 :: zz_v z :: st) := fun hR H locs ls hP hD hS hl => lv_iand hC.1 hC.2.1 hdg (by
  rw [zz_a255 hz]
  exact kk hR H locs ls hP hD hS hl)
theorem gd_i2c (hC : zz_C p c cc nL s m own) {z : Int} (hdg : decode cc pc = .ok (.i2c, 1)) (kk : Gd_ p l e R s m args below meth c Q N0 G a nL (k) (S) (pc + 1) (lv) (zz_v (z % 65536) :: st)) : Gd_ p l e R s m args below meth c Q N0 G a nL (k) (S) (pc) (lv) (zz_v z :: st) := fun hR H locs ls hP hD hS hl => lv_i2c hC.1 hC.2.1 hdg (zz_i2c z) (kk hR H locs ls hP hD hS hl)
theorem gd_ishr0 (hC : zz_C p c cc nL s m own) {z : Int} (hdg : decode cc pc = .ok (.ishr, 1)) (kk : Gd_ p l e R s m args below meth c Q N0 G a nL (k) (S) (pc + 1) (lv) (zz_v z :: st)) : Gd_ p l e R s m args below meth c Q N0 G a nL (k) (S) (pc) (lv) (zz_v 0 :: zz_v z :: st) := fun hR H locs ls hP hD hS hl => lv_ishr hC.1 hC.2.1 hdg (by
  rw [zz_sh0]
  exact kk hR H locs ls hP hD hS hl)
theorem gd_ldcS (hC : zz_C p c cc nL s m RX3) (hF : zz_F s N0 G Y) {i index : Nat} {tx : String} (htx : zz_wi[i]? = some (index, tx)) (hdg : decode cc pc = .ok (.ldc index, 2)) (kk : Gd_ p l e R s m args below meth c Q N0 G a nL (k) (S) (pc + 2) (lv) (.ref (Y.1 i) :: st)) : Gd_ p l e R s m args below meth c Q N0 G a nL (k) (S) (pc) (lv) (st) := fun hR H locs ls hP hD hS hl => va_ldcS hC.1 hC.2.1 hC.2.2.2 (hF.2.2.2.2.2.2.1 i (index, tx) htx) hdg (kk hR H locs ls hP hD hS hl)
theorem gd_strC (hC : zz_C p c cc nL s m own) (hF : zz_F s N0 G Y) {i index : Nat} (hi : i < 4) (hlink : (Cond.fieldLink own index "java/lang/String" "coder" "B").before args s = true) (hdg : decode cc pc = .ok (.getfield index, 3)) (kk : Gd_ p l e R s m args below meth c Q N0 G a nL (k) (S) (pc + 3) (lv) (zz_v 0 :: st)) : Gd_ p l e R s m args below meth c Q N0 G a nL (k) (S) (pc) (lv) (.ref (Y.1 i) :: st) := fun hR H locs ls hP hD hS hl => vk_getf hC.1 hC.2.1 ((hF.2.2.2.2.2.1).1 i hi).2.1 hS hC.2.2.2 hlink (fun _ h => h) hdg (kk hR H locs ls hP hD hS hl)
theorem gd_strV (hC : zz_C p c cc nL s m own) (hF : zz_F s N0 G Y) {i index : Nat} (hi : i < 4) (hlink : (Cond.fieldLink own index "java/lang/String" "value" "[B").before args s = true) (hdg : decode cc pc = .ok (.getfield index, 3)) (kk : Gd_ p l e R s m args below meth c Q N0 G a nL (k) (S) (pc + 3) (lv) (.ref (Y.2 i) :: st)) : Gd_ p l e R s m args below meth c Q N0 G a nL (k) (S) (pc) (lv) (.ref (Y.1 i) :: st) := fun hR H locs ls hP hD hS hl => vk_getf hC.1 hC.2.1 ((hF.2.2.2.2.2.1).1 i hi).2.2.1 hS hC.2.2.2 hlink (fun _ h => h) hdg (kk hR H locs ls hP hD hS hl)
theorem gd_slen (hC : zz_C p c cc nL s m own) (hF : zz_F s N0 G Y) {i : Nat} (hi : i < 4) (hdg : decode cc pc = .ok (.arraylength, 1)) (kk : Gd_ p l e R s m args below meth c Q N0 G a nL (k) (S) (pc + 1) (lv) (zz_v ((zz_wl.getD i 0 : Nat) : Int) :: st)) : Gd_ p l e R s m args below meth c Q N0 G a nL (k) (S) (pc) (lv) (.ref (Y.2 i) :: st) := fun hR H locs ls hP hD hS hl => va_tlen hC.1 hC.2.1 ((hF.2.2.2.2.2.1).1 i hi).2.2.2 hS (zz_nN (n := zz_wl.getD i 0)).symm hdg (kk hR H locs ls hP hD hS hl)
theorem gd_sbal (hC : zz_C p c cc nL s m own) (hF : zz_F s N0 G Y) {i j : Nat} {x : Int} (hi : i < 4) (hx : x = (j : Int)) (hj : j < zz_wl.getD i 0) (hdg : decode cc pc = .ok (.baload, 1)) (kk : Gd_ p l e R s m args below meth c Q N0 G a nL (k) (S) (pc + 1) (lv) (zz_v ((zz_wb.getD i []).getD j 0).toInt :: st)) : Gd_ p l e R s m args below meth c Q N0 G a nL (k) (S) (pc) (lv) (zz_v x :: .ref (Y.2 i) :: st) := fun hR H locs ls hP hD hS hl => by
  have hw : zz_wl.getD i 0 < 2147483648 := by
    rcases (show i = 0 ∨ i = 1 ∨ i = 2 ∨ i = 3 by omega) with rfl | rfl | rfl | rfl <;> decide
  refine va_tb hC.1 hC.2.1 ((hF.2.2.2.2.2.1).1 i hi).2.2.2 hS (zz_in hx hj hw) (v := zz_v ((zz_wb.getD i []).getD j 0).toInt) ?_ hdg (kk hR H locs ls hP hD hS hl)
  rw [zz_cl hx (by omega), zz_v, zz_asI]
theorem gd_cs (hC : zz_C p c cc nL s m own) (hF : zz_F s N0 G Y) {index : Nat} (hlink : (Cond.fieldLink own index "java/lang/String" "COMPACT_STRINGS" "Z").before args s = true) (hdg : decode cc pc = .ok (.getstatic index, 3)) (kk : Gd_ p l e R s m args below meth c Q N0 G a nL (k) (S) (pc + 3) (lv) (zz_v 1 :: st)) : Gd_ p l e R s m args below meth c Q N0 G a nL (k) (S) (pc) (lv) (st) := fun hR H locs ls hP hD hS hl => va_gets hC.1 hC.2.1 hF.2.2.2.2.2.2.2.2.2.2.1 hS hC.2.2.2 hlink (fun _ h => h) hdg (kk hR H locs ls hP hD hS hl)
theorem gd_sf (hC : zz_C p c cc nL s m own) (hF : zz_F s N0 G Y) {index : Nat} (hlink : (Cond.fieldLink own index "jdk/internal/util/Preconditions" "SIOOBE_FORMATTER" "Ljava/util/function/BiFunction;").before args s = true) (hdg : decode cc pc = .ok (.getstatic index, 3)) (k0 : Gd_ p l e R s m args below meth c Q N0 G a nL (k) (S) (pc + 3) (lv) (.null :: st)) (k1 : ∀ t : Nat, Gd_ p l e R s m args below meth c Q N0 G a nL (k) (S) (pc + 3) (lv) (.ref t :: st)) : Gd_ p l e R s m args below meth c Q N0 G a nL (k) (S) (pc) (lv) (st) := fun hR H locs ls hP hD hS hl => by
  rcases hF.2.2.2.2.2.2.2.2.2.2.2 with h | ⟨t, h⟩
  · exact va_gets hC.1 hC.2.1 h hS hC.2.2.2 hlink (fun _ h => h) hdg (k0 hR H locs ls hP hD hS hl)
  · exact va_gets hC.1 hC.2.1 h hS hC.2.2.2 hlink (fun _ h => h) hdg (k1 t hR H locs ls hP hD hS hl)
theorem gd_anull (hC : zz_C p c cc nL s m own) {i j : Nat} {q : Fin 4} (hdg : decode cc pc = .ok (.aload_n q, 1)) (kk : Gd_ p l e R s m args below meth c Q N0 G a nL (k) (S) (pc + 1) (lv) (st)) : Gd_ p l e R s m args below meth c Q N0 G a nL (k) (S) (pc) (lv) (st) → True := fun _ => trivial
theorem gd_callTR {y : MethodName} {bytes : ByteArray} {i maxL index n K : Nat} {ret : Option FieldType} {ws : List Cond} {rm : Room} {As rest : List Value} {e1 : Int} {S1 : zz_S} {F X1 X2 X3 : Prop} (hC : zz_C p c cc nL s m own) (hF : zz_F s N0 G Y)
    (hM : zz_Rg S → CtR l y ws rm K (.ref (Y.1 i) :: As) N0 G Y a S e1 S1 F X1 X2 X3) (cw : CallW R s args own "java/lang/String" index y bytes maxL ret ws rm K (6 * K) n) (hi : i < 4) (hn : As.length = n) (hst : st = As.reverse ++ .ref (Y.1 i) :: rest) (hW : (rest.map fun v => v.category).sum ≤ 8) (hdg : decode cc pc = .ok (.invokevirtual index, 3)) (hf : k + K ≤ R.cells ∧ 6 * (k + K) ≤ R.slots)
    (kx : ∀ E : String, zz_xc E X1 X2 X3 → Gx_ p l e R s m args below meth c Q N0 G a nL (k + K) (S) (pc) (lv) (rest) (E)) (kk : F → zz_R e1 → Gd_ p l e R s m args below meth c Q N0 G a nL (k + K) (S1) (pc + 3) (lv) (zz_v e1 :: rest)) : Gd_ p l e R s m args below meth c Q N0 G a nL (k) (S) (pc) (lv) (st) :=
  gd_call (rm := rm) (K := K) (Y := Y) (av := .ref (Y.1 i) :: As) rfl (fun hR H locs ls hP hD hS hl => vx_runV (Ts := []) ⟨hC.1, hC.2.1, hC.2.2.1, hC.2.2.2, fun _ h => nomatch h⟩ (hM hR) cw ⟨zz_blind, vk_recv hF.2.2.2.2.2.1 hi hS, gd_pre hF.1 hF.2.1 hF.2.2 hR hP hD hS⟩ rfl hn hl.1 hst (lv_room hW) hdg ⟨hf.1, by have h2 := hf.2; omega⟩) (fun E S' h => by obtain ⟨rfl, h⟩ := h; exact kx E h) (fun v S' h => by obtain ⟨r, hr, rfl, rfl, rfl, hp⟩ := h; exact kk hp hr)
end ZS
