/-! a throw that this method catches; contracts of the law's own methods -/
section ZC
variable {p : Program} {l : Launch} {e : Env} {R : Room} {s : State} {m : MethodId} {args : Array Value} {below : List Frame} {meth : Method} {c : Code} {Q : State → Prop} {N0 : Nat} {G : zz_G} {a : Nat → Nat} {nL k : Nat} {S : zz_S} {pc : Nat} {lv : List (Nat × Value)} {st : List Value} {cc : ByteArray} {own : String}
theorem gx_catch {E name : String} (hC : zz_C p c cc nL s m own) (pre : List ExceptionTableEntry) (x : ExceptionTableEntry) (suf : List ExceptionTableEntry) (hsplit : c.exceptionTable.toList = pre ++ x :: suf)
    (hpass : ∀ z ∈ pre, covers z pc = false ∨ (z.catchType ≠ 0 ∧ ∃ nm : String, (Cond.classLink own z.catchType nm).before args s = true ∧ va_Nc E nm s)) (hx : covers x pc = true) (h0 : x.catchType ≠ 0)
    (hlink : (Cond.classLink own x.catchType name).before args s = true) (hcast : (Cond.castable E name).before args s = true)
    (kk : ∀ q9 : Nat, Gd_ p l e R s m args below meth c Q N0 G a nL k S x.handlerPc lv [.ref q9]) : Gx_ p l e R s m args below meth c Q N0 G a nL k S pc lv st E := by
  intro hR H locs ls q9 ce hP hD hS hl hce hcv hcl
  exact vx_catch hC.2.2.2 pre x suf hsplit hpass hx h0 hlink hcast hce hcv hcl (kk q9 hR H locs ls hP hD hS hl)
end ZC
/-- a contract out of the walk of a body with handlers -/
theorem Ct_.ofH {l : Launch} {y : MethodName} {ws ws' : List Cond} {rm : Room} {K : Nat} {av : List Value} {N0 : Nat} {G : zz_G} {Y : zz_Y} {a : Nat → Nat} {S : zz_S} {post : Option Value → zz_S → Prop} {px : String → zz_S → Prop} {cc : ByteArray} {maxL : Nat} {ret : Option FieldType} {hh : List (Nat × Nat × Nat × Nat)}
    (hy : plainName y.cls = true) (hw : ws = Cond.codeWith y cc maxL ret hh :: ws') (hlen : (lg_sl av).length ≤ maxL)
    (body : ∀ (p : Program) (e : Env) (s : State) (m : MethodId) (args : Array Value) (below : List Frame) (meth : Method) (c : Code), zz_C p c cc maxL s m y.cls → (∀ w ∈ ws, w.before args s = true) → meth.sig.returnType = ret → meth.locks = false → c.exceptionTable.toList = tableOf hh → zz_F s N0 G Y →
      Gd_ p l e rm s m args below meth c (vx_MQ below (zz_Q N0 G a post) (zz_X N0 G a px) args s K (6 * K) (zz_A N0)) N0 G a maxL 0 S 0 (lv_args 0 av) []) : Ct_ l y ws rm K av N0 G Y a S post px := by
  refine vx_ofWH hy hw ?_
  intro p e s m args below meth c s₁ B hml hv
  obtain ⟨rfl, h1, h2, h3, h4, h5, h6⟩ := hv
  have hts := atoms_spec (ws := ws) B.pre
  have ht : c.exceptionTable.toList = tableOf hh := vx_table (x := y) B (hts (Cond.codeWith y cc maxL ret hh) (by rw [hw]; exact List.mem_cons_self))
  have hl := lv_entry av (n := maxL) hlen
  have hg := body p e s m av.toArray below meth c ⟨B.exec, B.bytes, hml, findClass_of_methodNamed B.named⟩ hts B.returns B.notSynchronized ht ⟨h1, h3, h6⟩ h5 s.heap [] _ h2 h4 va_S.rf hl
  rw [lg_entry_eq]
  exact hg
/-- 0: the call returned, and the world is S1; or which of the law's numbers the exception has, and the world is as before -/
def zz_wp (S S1 : zz_S) (e : Int) (F X1 X2 X3 : Prop) (n1 n2 n3 r : Int) (S' : zz_S) : Prop := (r = 0 ∧ F ∧ zz_R e ∧ S' = S1) ∨ (r = n1 ∧ X1 ∧ S' = S) ∨ (r = n2 ∧ X2 ∧ S' = S) ∨ (r = n3 ∧ X3 ∧ S' = S)
def CtL (l : Launch) (y : MethodName) (ws : List Cond) (rm : Room) (K : Nat) (av : List Value) (N0 : Nat) (G : zz_G) (Y : zz_Y) (a : Nat → Nat) (S S1 : zz_S) (e : Int) (F X1 X2 X3 : Prop) (n1 n2 n3 : Int) : Prop :=
  Ct_ l y ws rm K av N0 G Y a S (fun v S' => ∃ r : Int, zz_R r ∧ v = some (zz_v r) ∧ zz_wp S S1 e F X1 X2 X3 n1 n2 n3 r S') (fun _ _ => False)
abbrev rm_L_letter : Room := { frames := 7, cells := 1, slots := 6, locals := 103 }
set_option maxHeartbeats 4000000 in
set_option maxRecDepth 100000 in
theorem c_L_letter (l : Launch) (hl9 : l.stackTraces = false) (N0 : Nat) (G : zz_G) (Y : zz_Y) (a : Nat → Nat) (S : zz_S) (x : Int) (hx : 0 ≤ x ∧ x < 65536) (hI : zz_IC S) : CtL l yL_letter wsL_letter rm_L_letter 1 [.ref (a 0), zz_v x, .ref (a 99)] N0 G Y a S (zz_u (zz_u (zz_u (S) (1) ((S 0 1).toNat) (x)) (0) (1) (S 0 1 + 1)) 99 0 (S 0 1 + 1)) (S 0 1 + 1) (97 ≤ x ∧ x ≤ 122 ∧ S 0 1 < 7) (False) (x < 97 ∨ 122 < x) ((97 ≤ x ∧ x ≤ 122) ∧ 7 ≤ S 0 1) 0 1 2 := by
  refine Ct_.ofH (cc := cL_letter) (maxL := 4) (ret := (some .int)) (hh := [(0, 9, 12, 13), (0, 9, 15, 15)]) (by decide) rfl (Nat.le_of_ble_eq_true rfl) ?_
  intro p e s m args below meth c hC hts hr hlk hex hF
  have hK := hF.2.1
  refine gd_lveq (lv' := [(0, .ref (a 0)), (1, zz_v x), (2, .ref (a 99))]) rfl ?_
  refine gd_aload_n hC dL_letter_0 rfl (j := 2) rfl ?_
  refine gd_iconst hC dL_letter_1 ?_
  refine gd_aload_n hC dL_letter_2 rfl (j := 0) rfl ?_
  refine gd_iload_n hC dL_letter_3 rfl (j := 1) rfl ?_
  refine gd_callVR (As := [zz_v x]) (rest := [zz_v 0, .ref (a 99)]) hC hF (fun hR => c_X3_letter l hl9 N0 G Y a S x hx hI) (cwV 1 hts gL_letter_X3_letter rfl rfl rfl (by decide +kernel) ⟨by decide, by decide⟩) rfl (by decide) (ci := 3) rfl rfl rfl rfl (Nat.le_of_ble_eq_true rfl) dL_letter_4 ⟨by decide, by decide⟩ (fun E hx => ?_) (fun q qr => ?_)
  · rcases hx with ⟨rfl, hx⟩ | ⟨rfl, hx⟩ | ⟨rfl, hx⟩
    · exact hx.elim
    · refine gx_catch (name := "java/lang/IllegalArgumentException") hC [] ⟨0, 9, 12, 13⟩ [⟨0, 9, 15, 15⟩] (by rw [hex]; rfl) (fun z hz => nomatch hz) rfl (by decide) (hts _ (by decide +kernel)) (va_Nw.use (A := args) rfl (hF.2.2.2.2.2.2.2.1 _ (by decide))) (fun q9 => ?_)
      refine gd_astore_n hC dL_letter_12 rfl (by decide) (lv' := [(3, .ref q9), (0, .ref (a 0)), (1, zz_v x), (2, .ref (a 99))]) rfl ?_
      refine gd_iconst hC dL_letter_13 ?_
      exact gd_ireturn hC hr rfl hlk dL_letter_14 (by decide) ⟨_, ⟨by decide, by decide⟩, rfl, Or.inr (Or.inr (Or.inl ⟨rfl, hx, rfl⟩))⟩
    · refine gx_catch (name := "java/lang/IllegalStateException") hC [⟨0, 9, 12, 13⟩] ⟨0, 9, 15, 15⟩ [] (by rw [hex]; rfl) (fun z hz => by rcases List.mem_singleton.mp hz with rfl; exact Or.inr ⟨by decide, "java/lang/IllegalArgumentException", hts _ (by decide +kernel), hF.2.2.2.2.2.2.2.2.1 _ (by decide) _ (by decide) (by decide)⟩) rfl (by decide) (hts _ (by decide +kernel)) (va_Nw.use (A := args) rfl (hF.2.2.2.2.2.2.2.1 _ (by decide))) (fun q9 => ?_)
      refine gd_astore_n hC dL_letter_15 rfl (by decide) (lv' := [(3, .ref q9), (0, .ref (a 0)), (1, zz_v x), (2, .ref (a 99))]) rfl ?_
      refine gd_iconst hC dL_letter_16 ?_
      exact gd_ireturn hC hr rfl hlk dL_letter_17 (by decide) ⟨_, ⟨by decide, by decide⟩, rfl, Or.inr (Or.inr (Or.inr ⟨rfl, hx, rfl⟩))⟩
  · skip
    refine gd_i2l hC qr dL_letter_7 ?_
    refine gd_last hC hK (j := 0) rfl (by decide) rfl (by decide) (by decide) qr dL_letter_8 ?_
    refine gd_goto hC dL_letter_9 (tgt := 18) (by decide) ?_
    refine gd_iconst hC dL_letter_18 ?_
    exact gd_ireturn hC hr rfl hlk dL_letter_19 (by decide) ⟨_, ⟨by decide, by decide⟩, rfl, Or.inl ⟨rfl, q, qr, rfl⟩⟩

abbrev rm_L_office : Room := { frames := 8, cells := 2, slots := 12, locals := 125 }
set_option maxHeartbeats 4000000 in
set_option maxRecDepth 100000 in
theorem c_L_office (l : Launch) (hl9 : l.stackTraces = false) (N0 : Nat) (G : zz_G) (Y : zz_Y) (a : Nat → Nat) (S : zz_S) (x : Int) (hx : zz_R x) (hI : zz_IC S) : CtL l yL_office wsL_office rm_L_office 2 [.ref (a 0), zz_v x, .ref (a 99)] N0 G Y a S (zz_u (zz_u (zz_u (S) (2) ((S 0 3).toNat) (x)) (0) (3) (S 0 3 + 1)) 99 0 (S 0 3)) (S 0 3) ((x = -1 ∨ (0 ≤ x ∧ x < S 0 3)) ∧ S 0 3 < 10) (¬ x = -1 ∧ (x < 0 ∨ S 0 3 ≤ x)) (False) ((x = -1 ∨ (0 ≤ x ∧ x < S 0 3)) ∧ 10 ≤ S 0 3) 1 0 2 := by
  refine Ct_.ofH (cc := cL_office) (maxL := 4) (ret := (some .int)) (hh := [(0, 9, 12, 21), (0, 9, 15, 15)]) (by decide) rfl (Nat.le_of_ble_eq_true rfl) ?_
  intro p e s m args below meth c hC hts hr hlk hex hF
  have hK := hF.2.1
  refine gd_lveq (lv' := [(0, .ref (a 0)), (1, zz_v x), (2, .ref (a 99))]) rfl ?_
  refine gd_aload_n hC dL_office_0 rfl (j := 2) rfl ?_
  refine gd_iconst hC dL_office_1 ?_
  refine gd_aload_n hC dL_office_2 rfl (j := 0) rfl ?_
  refine gd_iload_n hC dL_office_3 rfl (j := 1) rfl ?_
  refine gd_callVR (As := [zz_v x]) (rest := [zz_v 0, .ref (a 99)]) hC hF (fun hR => c_X3_office l hl9 N0 G Y a S x hx hI) (cwV 1 hts gL_office_X3_office rfl rfl rfl (by decide +kernel) ⟨by decide, by decide⟩) rfl (by decide) (ci := 3) rfl rfl rfl rfl (Nat.le_of_ble_eq_true rfl) dL_office_4 ⟨by decide, by decide⟩ (fun E hx => ?_) (fun q qr => ?_)
  · rcases hx with ⟨rfl, hx⟩ | ⟨rfl, hx⟩ | ⟨rfl, hx⟩
    · refine gx_catch (name := "java/lang/IndexOutOfBoundsException") hC [] ⟨0, 9, 12, 21⟩ [⟨0, 9, 15, 15⟩] (by rw [hex]; rfl) (fun z hz => nomatch hz) rfl (by decide) (hts _ (by decide +kernel)) (va_Nw.use (A := args) rfl (hF.2.2.2.2.2.2.2.1 _ (by decide))) (fun q9 => ?_)
      refine gd_astore_n hC dL_office_12 rfl (by decide) (lv' := [(3, .ref q9), (0, .ref (a 0)), (1, zz_v x), (2, .ref (a 99))]) rfl ?_
      refine gd_iconst hC dL_office_13 ?_
      exact gd_ireturn hC hr rfl hlk dL_office_14 (by decide) ⟨_, ⟨by decide, by decide⟩, rfl, Or.inr (Or.inl ⟨rfl, hx, rfl⟩)⟩
    · exact hx.elim
    · refine gx_catch (name := "java/lang/IllegalStateException") hC [⟨0, 9, 12, 21⟩] ⟨0, 9, 15, 15⟩ [] (by rw [hex]; rfl) (fun z hz => by rcases List.mem_singleton.mp hz with rfl; exact Or.inr ⟨by decide, "java/lang/IndexOutOfBoundsException", hts _ (by decide +kernel), hF.2.2.2.2.2.2.2.2.1 _ (by decide) _ (by decide) (by decide)⟩) rfl (by decide) (hts _ (by decide +kernel)) (va_Nw.use (A := args) rfl (hF.2.2.2.2.2.2.2.1 _ (by decide))) (fun q9 => ?_)
      refine gd_astore_n hC dL_office_15 rfl (by decide) (lv' := [(3, .ref q9), (0, .ref (a 0)), (1, zz_v x), (2, .ref (a 99))]) rfl ?_
      refine gd_iconst hC dL_office_16 ?_
      exact gd_ireturn hC hr rfl hlk dL_office_17 (by decide) ⟨_, ⟨by decide, by decide⟩, rfl, Or.inr (Or.inr (Or.inr ⟨rfl, hx, rfl⟩))⟩
  · skip
    refine gd_i2l hC qr dL_office_7 ?_
    refine gd_last hC hK (j := 0) rfl (by decide) rfl (by decide) (by decide) qr dL_office_8 ?_
    refine gd_goto hC dL_office_9 (tgt := 18) (by decide) ?_
    refine gd_iconst hC dL_office_18 ?_
    exact gd_ireturn hC hr rfl hlk dL_office_19 (by decide) ⟨_, ⟨by decide, by decide⟩, rfl, Or.inl ⟨rfl, q, qr, rfl⟩⟩

abbrev rm_L_delegate : Room := { frames := 8, cells := 3, slots := 18, locals := 126 }
set_option maxHeartbeats 4000000 in
set_option maxRecDepth 100000 in
theorem c_L_delegate (l : Launch) (hl9 : l.stackTraces = false) (N0 : Nat) (G : zz_G) (Y : zz_Y) (a : Nat → Nat) (S : zz_S) (x y : Int) (hx : zz_R x) (hy : zz_R y) (hd : S 3 3 < 512) (hI : zz_IC S) : CtL l yL_delegate wsL_delegate rm_L_delegate 3 [.ref (a 0), zz_v x, zz_v y, .ref (a 99)] N0 G Y a S (zz_u (zz_u (zz_u (zz_u (zz_u (S) (4) ((S 3 3).toNat) (x)) (5) ((S 3 3).toNat) ((S 0 10))) (6) ((S 3 3).toNat) (y)) (3) (3) (S 3 3 + 1)) 99 0 (zz_vo (S 4) (S 5) (S 6) x (S 0 10) (-1) (S 3 3).toNat)) (zz_vo (S 4) (S 5) (S 6) x (S 0 10) (-1) (S 3 3).toNat) ((0 ≤ x ∧ x < S 0 3) ∧ (y = -1 ∨ (0 ≤ y ∧ y < S 0 3)) ∧ ¬ x = y) (¬ (0 ≤ x ∧ x < S 0 3) ∨ ¬ (y = -1 ∨ (0 ≤ y ∧ y < S 0 3))) ((0 ≤ x ∧ x < S 0 3) ∧ (y = -1 ∨ (0 ≤ y ∧ y < S 0 3)) ∧ x = y) (False) 1 2 0 := by
  refine Ct_.ofH (cc := cL_delegate) (maxL := 5) (ret := (some .int)) (hh := [(0, 10, 13, 21), (0, 10, 17, 13)]) (by decide) rfl (Nat.le_of_ble_eq_true rfl) ?_
  intro p e s m args below meth c hC hts hr hlk hex hF
  have hK := hF.2.1
  refine gd_lveq (lv' := [(0, .ref (a 0)), (1, zz_v x), (2, zz_v y), (3, .ref (a 99))]) rfl ?_
  refine gd_aload_n hC dL_delegate_0 rfl (j := 3) rfl ?_
  refine gd_iconst hC dL_delegate_1 ?_
  refine gd_aload_n hC dL_delegate_2 rfl (j := 0) rfl ?_
  refine gd_iload_n hC dL_delegate_3 rfl (j := 1) rfl ?_
  refine gd_iload_n hC dL_delegate_4 rfl (j := 2) rfl ?_
  refine gd_callVR (As := [zz_v x, zz_v y]) (rest := [zz_v 0, .ref (a 99)]) hC hF (fun hR => c_X3_delegate l hl9 N0 G Y a S x y hx hy hd hI) (cwV 2 hts gL_delegate_X3_delegate rfl rfl rfl (by decide +kernel) ⟨by decide, by decide⟩) rfl (by decide) (ci := 3) rfl rfl rfl rfl (Nat.le_of_ble_eq_true rfl) dL_delegate_5 ⟨by decide, by decide⟩ (fun E hx => ?_) (fun q qr => ?_)
  · rcases hx with ⟨rfl, hx⟩ | ⟨rfl, hx⟩ | ⟨rfl, hx⟩
    · refine gx_catch (name := "java/lang/IndexOutOfBoundsException") hC [] ⟨0, 10, 13, 21⟩ [⟨0, 10, 17, 13⟩] (by rw [hex]; rfl) (fun z hz => nomatch hz) rfl (by decide) (hts _ (by decide +kernel)) (va_Nw.use (A := args) rfl (hF.2.2.2.2.2.2.2.1 _ (by decide))) (fun q9 => ?_)
      refine gd_astore hC dL_delegate_13 (by decide) (lv' := [(4, .ref q9), (0, .ref (a 0)), (1, zz_v x), (2, zz_v y), (3, .ref (a 99))]) rfl ?_
      refine gd_iconst hC dL_delegate_15 ?_
      exact gd_ireturn hC hr rfl hlk dL_delegate_16 (by decide) ⟨_, ⟨by decide, by decide⟩, rfl, Or.inr (Or.inl ⟨rfl, hx, rfl⟩)⟩
    · refine gx_catch (name := "java/lang/IllegalArgumentException") hC [⟨0, 10, 13, 21⟩] ⟨0, 10, 17, 13⟩ [] (by rw [hex]; rfl) (fun z hz => by rcases List.mem_singleton.mp hz with rfl; exact Or.inr ⟨by decide, "java/lang/IndexOutOfBoundsException", hts _ (by decide +kernel), hF.2.2.2.2.2.2.2.2.1 _ (by decide) _ (by decide) (by decide)⟩) rfl (by decide) (hts _ (by decide +kernel)) (va_Nw.use (A := args) rfl (hF.2.2.2.2.2.2.2.1 _ (by decide))) (fun q9 => ?_)
      refine gd_astore hC dL_delegate_17 (by decide) (lv' := [(4, .ref q9), (0, .ref (a 0)), (1, zz_v x), (2, zz_v y), (3, .ref (a 99))]) rfl ?_
      refine gd_iconst hC dL_delegate_19 ?_
      exact gd_ireturn hC hr rfl hlk dL_delegate_20 (by decide) ⟨_, ⟨by decide, by decide⟩, rfl, Or.inr (Or.inr (Or.inl ⟨rfl, hx, rfl⟩))⟩
    · exact hx.elim
  · skip
    refine gd_i2l hC qr dL_delegate_8 ?_
    refine gd_last hC hK (j := 0) rfl (by decide) rfl (by decide) (by decide) qr dL_delegate_9 ?_
    refine gd_goto hC dL_delegate_10 (tgt := 21) (by decide) ?_
    refine gd_iconst hC dL_delegate_21 ?_
    exact gd_ireturn hC hr rfl hlk dL_delegate_22 (by decide) ⟨_, ⟨by decide, by decide⟩, rfl, Or.inl ⟨rfl, q, qr, rfl⟩⟩

abbrev rm_L_whose : Room := { frames := 8, cells := 2, slots := 12, locals := 126 }
set_option maxHeartbeats 4000000 in
set_option maxRecDepth 100000 in
theorem c_L_whose (l : Launch) (hl9 : l.stackTraces = false) (N0 : Nat) (G : zz_G) (Y : zz_Y) (a : Nat → Nat) (S : zz_S) (x y : Int) (hx : zz_R x) (hy : zz_R y) (hI : zz_IC S) : CtL l yL_whose wsL_whose rm_L_whose 2 [.ref (a 0), zz_v x, zz_v y, .ref (a 99)] N0 G Y a S (zz_u (S) 99 0 (zz_oo (S 4) (S 5) (S 6) (S 3 3).toNat y 10 x)) (zz_oo (S 4) (S 5) (S 6) (S 3 3).toNat y 10 x) ((0 ≤ x ∧ x < S 0 3) ∧ 0 ≤ y ∧ y ≤ S 0 10) (¬ (0 ≤ x ∧ x < S 0 3)) ((0 ≤ x ∧ x < S 0 3) ∧ ¬ (0 ≤ y ∧ y ≤ S 0 10)) (False) 1 2 0 := by
  refine Ct_.ofH (cc := cL_whose) (maxL := 5) (ret := (some .int)) (hh := [(0, 10, 13, 21), (0, 10, 17, 13)]) (by decide) rfl (Nat.le_of_ble_eq_true rfl) ?_
  intro p e s m args below meth c hC hts hr hlk hex hF
  have hK := hF.2.1
  refine gd_lveq (lv' := [(0, .ref (a 0)), (1, zz_v x), (2, zz_v y), (3, .ref (a 99))]) rfl ?_
  refine gd_aload_n hC dL_whose_0 rfl (j := 3) rfl ?_
  refine gd_iconst hC dL_whose_1 ?_
  refine gd_aload_n hC dL_whose_2 rfl (j := 0) rfl ?_
  refine gd_iload_n hC dL_whose_3 rfl (j := 1) rfl ?_
  refine gd_iload_n hC dL_whose_4 rfl (j := 2) rfl ?_
  refine gd_callVR (As := [zz_v x, zz_v y]) (rest := [zz_v 0, .ref (a 99)]) hC hF (fun hR => c_X3_whose l hl9 N0 G Y a S x y hx hy hI) (cwV 2 hts gL_whose_X3_whose rfl rfl rfl (by decide +kernel) ⟨by decide, by decide⟩) rfl (by decide) (ci := 3) rfl rfl rfl rfl (Nat.le_of_ble_eq_true rfl) dL_whose_5 ⟨by decide, by decide⟩ (fun E hx => ?_) (fun q qr => ?_)
  · rcases hx with ⟨rfl, hx⟩ | ⟨rfl, hx⟩ | ⟨rfl, hx⟩
    · refine gx_catch (name := "java/lang/IndexOutOfBoundsException") hC [] ⟨0, 10, 13, 21⟩ [⟨0, 10, 17, 13⟩] (by rw [hex]; rfl) (fun z hz => nomatch hz) rfl (by decide) (hts _ (by decide +kernel)) (va_Nw.use (A := args) rfl (hF.2.2.2.2.2.2.2.1 _ (by decide))) (fun q9 => ?_)
      refine gd_astore hC dL_whose_13 (by decide) (lv' := [(4, .ref q9), (0, .ref (a 0)), (1, zz_v x), (2, zz_v y), (3, .ref (a 99))]) rfl ?_
      refine gd_iconst hC dL_whose_15 ?_
      exact gd_ireturn hC hr rfl hlk dL_whose_16 (by decide) ⟨_, ⟨by decide, by decide⟩, rfl, Or.inr (Or.inl ⟨rfl, hx, rfl⟩)⟩
    · refine gx_catch (name := "java/lang/IllegalArgumentException") hC [⟨0, 10, 13, 21⟩] ⟨0, 10, 17, 13⟩ [] (by rw [hex]; rfl) (fun z hz => by rcases List.mem_singleton.mp hz with rfl; exact Or.inr ⟨by decide, "java/lang/IndexOutOfBoundsException", hts _ (by decide +kernel), hF.2.2.2.2.2.2.2.2.1 _ (by decide) _ (by decide) (by decide)⟩) rfl (by decide) (hts _ (by decide +kernel)) (va_Nw.use (A := args) rfl (hF.2.2.2.2.2.2.2.1 _ (by decide))) (fun q9 => ?_)
      refine gd_astore hC dL_whose_17 (by decide) (lv' := [(4, .ref q9), (0, .ref (a 0)), (1, zz_v x), (2, zz_v y), (3, .ref (a 99))]) rfl ?_
      refine gd_iconst hC dL_whose_19 ?_
      exact gd_ireturn hC hr rfl hlk dL_whose_20 (by decide) ⟨_, ⟨by decide, by decide⟩, rfl, Or.inr (Or.inr (Or.inl ⟨rfl, hx, rfl⟩))⟩
    · exact hx.elim
  · skip
    refine gd_i2l hC qr dL_whose_8 ?_
    refine gd_last hC hK (j := 0) rfl (by decide) rfl (by decide) (by decide) qr dL_whose_9 ?_
    refine gd_goto hC dL_whose_10 (tgt := 21) (by decide) ?_
    refine gd_iconst hC dL_whose_21 ?_
    exact gd_ireturn hC hr rfl hlk dL_whose_22 (by decide) ⟨_, ⟨by decide, by decide⟩, rfl, Or.inl ⟨rfl, q, qr, rfl⟩⟩

abbrev rm_L_limit : Room := { frames := 8, cells := 2, slots := 12, locals := 127 }
set_option maxHeartbeats 4000000 in
set_option maxRecDepth 100000 in
theorem c_L_limit (l : Launch) (hl9 : l.stackTraces = false) (N0 : Nat) (G : zz_G) (Y : zz_Y) (a : Nat → Nat) (S : zz_S) (x y : Int) (hx : zz_R x) (hy : zz_R y) (hd : S 7 3 < 512) (hI : zz_IC S) : CtL l yL_limit wsL_limit rm_L_limit 2 [.ref (a 0), zz_v x, zz_v y, .ref (a 99)] N0 G Y a S (zz_u (zz_u (zz_u (zz_u (zz_u (S) (8) ((S 7 3).toNat) (x)) (9) ((S 7 3).toNat) ((S 0 10))) (10) ((S 7 3).toNat) (y)) (7) (3) (S 7 3 + 1)) 99 0 (zz_vo (S 8) (S 9) (S 10) x (S 0 10) 30 (S 7 3).toNat)) (zz_vo (S 8) (S 9) (S 10) x (S 0 10) 30 (S 7 3).toNat) ((0 ≤ x ∧ x < 4) ∧ (0 ≤ y ∧ y ≤ 100)) (¬ (0 ≤ x ∧ x < 4)) ((0 ≤ x ∧ x < 4) ∧ ¬ (0 ≤ y ∧ y ≤ 100)) (False) 1 2 0 := by
  refine Ct_.ofH (cc := cL_limit) (maxL := 5) (ret := (some .int)) (hh := [(0, 10, 13, 21), (0, 10, 17, 13)]) (by decide) rfl (Nat.le_of_ble_eq_true rfl) ?_
  intro p e s m args below meth c hC hts hr hlk hex hF
  have hK := hF.2.1
  refine gd_lveq (lv' := [(0, .ref (a 0)), (1, zz_v x), (2, zz_v y), (3, .ref (a 99))]) rfl ?_
  refine gd_aload_n hC dL_limit_0 rfl (j := 3) rfl ?_
  refine gd_iconst hC dL_limit_1 ?_
  refine gd_aload_n hC dL_limit_2 rfl (j := 0) rfl ?_
  refine gd_iload_n hC dL_limit_3 rfl (j := 1) rfl ?_
  refine gd_iload_n hC dL_limit_4 rfl (j := 2) rfl ?_
  refine gd_callVR (As := [zz_v x, zz_v y]) (rest := [zz_v 0, .ref (a 99)]) hC hF (fun hR => c_X3_limit l hl9 N0 G Y a S x y hx hy hd hI) (cwV 2 hts gL_limit_X3_limit rfl rfl rfl (by decide +kernel) ⟨by decide, by decide⟩) rfl (by decide) (ci := 3) rfl rfl rfl rfl (Nat.le_of_ble_eq_true rfl) dL_limit_5 ⟨by decide, by decide⟩ (fun E hx => ?_) (fun q qr => ?_)
  · rcases hx with ⟨rfl, hx⟩ | ⟨rfl, hx⟩ | ⟨rfl, hx⟩
    · refine gx_catch (name := "java/lang/IndexOutOfBoundsException") hC [] ⟨0, 10, 13, 21⟩ [⟨0, 10, 17, 13⟩] (by rw [hex]; rfl) (fun z hz => nomatch hz) rfl (by decide) (hts _ (by decide +kernel)) (va_Nw.use (A := args) rfl (hF.2.2.2.2.2.2.2.1 _ (by decide))) (fun q9 => ?_)
      refine gd_astore hC dL_limit_13 (by decide) (lv' := [(4, .ref q9), (0, .ref (a 0)), (1, zz_v x), (2, zz_v y), (3, .ref (a 99))]) rfl ?_
      refine gd_iconst hC dL_limit_15 ?_
      exact gd_ireturn hC hr rfl hlk dL_limit_16 (by decide) ⟨_, ⟨by decide, by decide⟩, rfl, Or.inr (Or.inl ⟨rfl, hx, rfl⟩)⟩
    · refine gx_catch (name := "java/lang/IllegalArgumentException") hC [⟨0, 10, 13, 21⟩] ⟨0, 10, 17, 13⟩ [] (by rw [hex]; rfl) (fun z hz => by rcases List.mem_singleton.mp hz with rfl; exact Or.inr ⟨by decide, "java/lang/IndexOutOfBoundsException", hts _ (by decide +kernel), hF.2.2.2.2.2.2.2.2.1 _ (by decide) _ (by decide) (by decide)⟩) rfl (by decide) (hts _ (by decide +kernel)) (va_Nw.use (A := args) rfl (hF.2.2.2.2.2.2.2.1 _ (by decide))) (fun q9 => ?_)
      refine gd_astore hC dL_limit_17 (by decide) (lv' := [(4, .ref q9), (0, .ref (a 0)), (1, zz_v x), (2, zz_v y), (3, .ref (a 99))]) rfl ?_
      refine gd_iconst hC dL_limit_19 ?_
      exact gd_ireturn hC hr rfl hlk dL_limit_20 (by decide) ⟨_, ⟨by decide, by decide⟩, rfl, Or.inr (Or.inr (Or.inl ⟨rfl, hx, rfl⟩))⟩
    · exact hx.elim
  · skip
    refine gd_i2l hC qr dL_limit_8 ?_
    refine gd_last hC hK (j := 0) rfl (by decide) rfl (by decide) (by decide) qr dL_limit_9 ?_
    refine gd_goto hC dL_limit_10 (tgt := 21) (by decide) ?_
    refine gd_iconst hC dL_limit_21 ?_
    exact gd_ireturn hC hr rfl hlk dL_limit_22 (by decide) ⟨_, ⟨by decide, by decide⟩, rfl, Or.inl ⟨rfl, q, qr, rfl⟩⟩

abbrev rm_L_act : Room := { frames := 8, cells := 4, slots := 24, locals := 153 }
set_option maxHeartbeats 4000000 in
set_option maxRecDepth 100000 in
theorem c_L_act (l : Launch) (hl9 : l.stackTraces = false) (N0 : Nat) (G : zz_G) (Y : zz_Y) (a : Nat → Nat) (S : zz_S) (x y w : Int) (hx : zz_R x) (hy : zz_R y) (hw : zz_R w) (hI : zz_IC S) : CtL l yL_act wsL_act rm_L_act 4 [.ref (a 0), zz_v x, zz_v y, zz_v w, .ref (a 99)] N0 G Y a S (zz_u (zz_aS S x y w) 99 0 (if zz_tk (S 1) (S 0 1) = -1 then -1 else S 0 7)) (if zz_tk (S 1) (S 0 1) = -1 then -1 else S 0 7) (((0 ≤ x ∧ x < S 0 3) ∧ ((0 ≤ y ∧ y ≤ 100) ∧ (0 ≤ w ∧ w ≤ 1000))) ∧ S 0 7 < 24) (¬ (0 ≤ x ∧ x < S 0 3)) ((0 ≤ x ∧ x < S 0 3) ∧ ¬ ((0 ≤ y ∧ y ≤ 100) ∧ (0 ≤ w ∧ w ≤ 1000))) (((0 ≤ x ∧ x < S 0 3) ∧ ((0 ≤ y ∧ y ≤ 100) ∧ (0 ≤ w ∧ w ≤ 1000))) ∧ 24 ≤ S 0 7) 1 2 3 := by
  refine Ct_.ofH (cc := cL_act) (maxL := 6) (ret := (some .int)) (hh := [(0, 12, 15, 21), (0, 12, 19, 13), (0, 12, 23, 15)]) (by decide) rfl (Nat.le_of_ble_eq_true rfl) ?_
  intro p e s m args below meth c hC hts hr hlk hex hF
  have hK := hF.2.1
  refine gd_lveq (lv' := [(0, .ref (a 0)), (1, zz_v x), (2, zz_v y), (3, zz_v w), (4, .ref (a 99))]) rfl ?_
  refine gd_aload hC dL_act_0 (j := 4) rfl ?_
  refine gd_iconst hC dL_act_2 ?_
  refine gd_aload_n hC dL_act_3 rfl (j := 0) rfl ?_
  refine gd_iload_n hC dL_act_4 rfl (j := 1) rfl ?_
  refine gd_iload_n hC dL_act_5 rfl (j := 2) rfl ?_
  refine gd_iload_n hC dL_act_6 rfl (j := 3) rfl ?_
  refine gd_callVR (As := [zz_v x, zz_v y, zz_v w]) (rest := [zz_v 0, .ref (a 99)]) hC hF (fun hR => c_X3_act l hl9 N0 G Y a S x y w hx hy hw hI) (cwV 3 hts gL_act_X3_act rfl rfl rfl (by decide +kernel) ⟨by decide, by decide⟩) rfl (by decide) (ci := 3) rfl rfl rfl rfl (Nat.le_of_ble_eq_true rfl) dL_act_7 ⟨by decide, by decide⟩ (fun E hx => ?_) (fun q qr => ?_)
  · rcases hx with ⟨rfl, hx⟩ | ⟨rfl, hx⟩ | ⟨rfl, hx⟩
    · refine gx_catch (name := "java/lang/IndexOutOfBoundsException") hC [] ⟨0, 12, 15, 21⟩ [⟨0, 12, 19, 13⟩, ⟨0, 12, 23, 15⟩] (by rw [hex]; rfl) (fun z hz => nomatch hz) rfl (by decide) (hts _ (by decide +kernel)) (va_Nw.use (A := args) rfl (hF.2.2.2.2.2.2.2.1 _ (by decide))) (fun q9 => ?_)
      refine gd_astore hC dL_act_15 (by decide) (lv' := [(5, .ref q9), (0, .ref (a 0)), (1, zz_v x), (2, zz_v y), (3, zz_v w), (4, .ref (a 99))]) rfl ?_
      refine gd_iconst hC dL_act_17 ?_
      exact gd_ireturn hC hr rfl hlk dL_act_18 (by decide) ⟨_, ⟨by decide, by decide⟩, rfl, Or.inr (Or.inl ⟨rfl, hx, rfl⟩)⟩
    · refine gx_catch (name := "java/lang/IllegalArgumentException") hC [⟨0, 12, 15, 21⟩] ⟨0, 12, 19, 13⟩ [⟨0, 12, 23, 15⟩] (by rw [hex]; rfl) (fun z hz => by rcases List.mem_singleton.mp hz with rfl; exact Or.inr ⟨by decide, "java/lang/IndexOutOfBoundsException", hts _ (by decide +kernel), hF.2.2.2.2.2.2.2.2.1 _ (by decide) _ (by decide) (by decide)⟩) rfl (by decide) (hts _ (by decide +kernel)) (va_Nw.use (A := args) rfl (hF.2.2.2.2.2.2.2.1 _ (by decide))) (fun q9 => ?_)
      refine gd_astore hC dL_act_19 (by decide) (lv' := [(5, .ref q9), (0, .ref (a 0)), (1, zz_v x), (2, zz_v y), (3, zz_v w), (4, .ref (a 99))]) rfl ?_
      refine gd_iconst hC dL_act_21 ?_
      exact gd_ireturn hC hr rfl hlk dL_act_22 (by decide) ⟨_, ⟨by decide, by decide⟩, rfl, Or.inr (Or.inr (Or.inl ⟨rfl, hx, rfl⟩))⟩
    · refine gx_catch (name := "java/lang/IllegalStateException") hC [⟨0, 12, 15, 21⟩, ⟨0, 12, 19, 13⟩] ⟨0, 12, 23, 15⟩ [] (by rw [hex]; rfl) (fun z hz => by rcases List.mem_cons.mp hz with rfl | hz; exact Or.inr ⟨by decide, "java/lang/IndexOutOfBoundsException", hts _ (by decide +kernel), hF.2.2.2.2.2.2.2.2.1 _ (by decide) _ (by decide) (by decide)⟩; rcases List.mem_singleton.mp hz with rfl; exact Or.inr ⟨by decide, "java/lang/IllegalArgumentException", hts _ (by decide +kernel), hF.2.2.2.2.2.2.2.2.1 _ (by decide) _ (by decide) (by decide)⟩) rfl (by decide) (hts _ (by decide +kernel)) (va_Nw.use (A := args) rfl (hF.2.2.2.2.2.2.2.1 _ (by decide))) (fun q9 => ?_)
      refine gd_astore hC dL_act_23 (by decide) (lv' := [(5, .ref q9), (0, .ref (a 0)), (1, zz_v x), (2, zz_v y), (3, zz_v w), (4, .ref (a 99))]) rfl ?_
      refine gd_iconst hC dL_act_25 ?_
      exact gd_ireturn hC hr rfl hlk dL_act_26 (by decide) ⟨_, ⟨by decide, by decide⟩, rfl, Or.inr (Or.inr (Or.inr ⟨rfl, hx, rfl⟩))⟩
  · skip
    refine gd_i2l hC qr dL_act_10 ?_
    refine gd_last hC hK (j := 0) rfl (by decide) rfl (by decide) (by decide) qr dL_act_11 ?_
    refine gd_goto hC dL_act_12 (tgt := 27) (by decide) ?_
    refine gd_iconst hC dL_act_27 ?_
    exact gd_ireturn hC hr rfl hlk dL_act_28 (by decide) ⟨_, ⟨by decide, by decide⟩, rfl, Or.inl ⟨rfl, q, qr, rfl⟩⟩

abbrev rm_L_court : Room := { frames := 8, cells := 1, slots := 6, locals := 126 }
set_option maxHeartbeats 4000000 in
set_option maxRecDepth 100000 in
theorem c_L_court (l : Launch) (hl9 : l.stackTraces = false) (N0 : Nat) (G : zz_G) (Y : zz_Y) (a : Nat → Nat) (S : zz_S) (x y : Int) (hx : zz_R x) (hy : y = 0 ∨ y = 1) (hI : zz_IC S) : CtL l yL_court wsL_court rm_L_court 1 [.ref (a 0), zz_v x, zz_v y, .ref (a 99)] N0 G Y a S (zz_u (zz_u (S) (13 + x.toNat) (5) (y)) 99 0 (S (13 + x.toNat) 5)) (S (13 + x.toNat) 5) ((0 ≤ x ∧ x < S 0 7)) (¬ (0 ≤ x ∧ x < S 0 7)) (False) (False) 1 0 0 := by
  refine Ct_.ofH (cc := cL_court) (maxL := 5) (ret := (some .int)) (hh := [(0, 17, 20, 21)]) (by decide) rfl (Nat.le_of_ble_eq_true rfl) ?_
  intro p e s m args below meth c hC hts hr hlk hex hF
  have hK := hF.2.1
  refine gd_lveq (lv' := [(0, .ref (a 0)), (1, zz_v x), (2, zz_v y), (3, .ref (a 99))]) rfl ?_
  refine gd_aload_n hC dL_court_0 rfl (j := 3) rfl ?_
  refine gd_iconst hC dL_court_1 ?_
  refine gd_aload_n hC dL_court_2 rfl (j := 0) rfl ?_
  refine gd_iload_n hC dL_court_3 rfl (j := 1) rfl ?_
  refine gd_iload_n hC dL_court_4 rfl (j := 2) rfl ?_
  refine gd_callVR (As := [zz_v x, zz_v y]) (rest := [zz_v 0, .ref (a 99)]) hC hF (fun hR => c_X3_court l hl9 N0 G Y a S x y hx hy hI) (cwV 2 hts gL_court_X3_court rfl rfl rfl (by decide +kernel) ⟨by decide, by decide⟩) rfl (by decide) (ci := 3) rfl rfl rfl rfl (Nat.le_of_ble_eq_true rfl) dL_court_5 ⟨by decide, by decide⟩ (fun E hx => ?_) (fun q qr => ?_)
  · rcases hx with ⟨rfl, hx⟩ | ⟨rfl, hx⟩ | ⟨rfl, hx⟩
    · refine gx_catch (name := "java/lang/IndexOutOfBoundsException") hC [] ⟨0, 17, 20, 21⟩ [] (by rw [hex]; rfl) (fun z hz => nomatch hz) rfl (by decide) (hts _ (by decide +kernel)) (va_Nw.use (A := args) rfl (hF.2.2.2.2.2.2.2.1 _ (by decide))) (fun q9 => ?_)
      refine gd_astore hC dL_court_20 (by decide) (lv' := [(4, .ref q9), (0, .ref (a 0)), (1, zz_v x), (2, zz_v y), (3, .ref (a 99))]) rfl ?_
      refine gd_iconst hC dL_court_22 ?_
      exact gd_ireturn hC hr rfl hlk dL_court_23 (by decide) ⟨_, ⟨by decide, by decide⟩, rfl, Or.inr (Or.inl ⟨rfl, hx, rfl⟩)⟩
    · exact hx.elim
    · exact hx.elim
  · obtain ⟨itc, ioc, iac, icc, itd, idc, ilc, iab, idv, iow, ikd, idy, ims, ihm, ict, iwv, irm, ipl, ian, ist, idl, ipe, ifi, ias, ihe, ifn, iod, ity⟩ := id hI
    have hb := ict x.toNat (by omega)
    refine gd_if_eq hC dL_court_8 (tgt := 15) (by decide) qr (fun c1 => ?_) (fun c1 => ?_)
    · skip
      refine gd_lconst hC dL_court_15 (z := 0) rfl ?_
      refine gd_topl (y := S (13 + x.toNat) 5) (by omega) ?_
      refine gd_last hC hK (j := 0) rfl (by decide) rfl (by decide) (by decide) qr dL_court_16 ?_
      refine gd_goto hC dL_court_17 (tgt := 24) (by decide) ?_
      refine gd_iconst hC dL_court_24 ?_
      exact gd_ireturn hC hr rfl hlk dL_court_25 (by decide) ⟨_, ⟨by decide, by decide⟩, rfl, Or.inl ⟨rfl, q, qr, rfl⟩⟩
    · skip
      refine gd_lconst hC dL_court_11 (z := 1) rfl ?_
      refine gd_goto hC dL_court_12 (tgt := 16) (by decide) ?_
      refine gd_topl (y := S (13 + x.toNat) 5) (by omega) ?_
      refine gd_last hC hK (j := 0) rfl (by decide) rfl (by decide) (by decide) qr dL_court_16 ?_
      refine gd_goto hC dL_court_17 (tgt := 24) (by decide) ?_
      refine gd_iconst hC dL_court_24 ?_
      exact gd_ireturn hC hr rfl hlk dL_court_25 (by decide) ⟨_, ⟨by decide, by decide⟩, rfl, Or.inl ⟨rfl, q, qr, rfl⟩⟩

abbrev rm_L_waive : Room := { frames := 8, cells := 1, slots := 6, locals := 126 }
set_option maxHeartbeats 4000000 in
set_option maxRecDepth 100000 in
theorem c_L_waive (l : Launch) (hl9 : l.stackTraces = false) (N0 : Nat) (G : zz_G) (Y : zz_Y) (a : Nat → Nat) (S : zz_S) (x y : Int) (hx : zz_R x) (hy : y = 0 ∨ y = 1) (hI : zz_IC S) : CtL l yL_waive wsL_waive rm_L_waive 1 [.ref (a 0), zz_v x, zz_v y, .ref (a 99)] N0 G Y a S (zz_u (zz_u (S) (13 + x.toNat) (6) (y)) 99 0 (S (13 + x.toNat) 6)) (S (13 + x.toNat) 6) ((0 ≤ x ∧ x < S 0 7)) (¬ (0 ≤ x ∧ x < S 0 7)) (False) (False) 1 0 0 := by
  refine Ct_.ofH (cc := cL_waive) (maxL := 5) (ret := (some .int)) (hh := [(0, 17, 20, 21)]) (by decide) rfl (Nat.le_of_ble_eq_true rfl) ?_
  intro p e s m args below meth c hC hts hr hlk hex hF
  have hK := hF.2.1
  refine gd_lveq (lv' := [(0, .ref (a 0)), (1, zz_v x), (2, zz_v y), (3, .ref (a 99))]) rfl ?_
  refine gd_aload_n hC dL_waive_0 rfl (j := 3) rfl ?_
  refine gd_iconst hC dL_waive_1 ?_
  refine gd_aload_n hC dL_waive_2 rfl (j := 0) rfl ?_
  refine gd_iload_n hC dL_waive_3 rfl (j := 1) rfl ?_
  refine gd_iload_n hC dL_waive_4 rfl (j := 2) rfl ?_
  refine gd_callVR (As := [zz_v x, zz_v y]) (rest := [zz_v 0, .ref (a 99)]) hC hF (fun hR => c_X3_waive l hl9 N0 G Y a S x y hx hy hI) (cwV 2 hts gL_waive_X3_waive rfl rfl rfl (by decide +kernel) ⟨by decide, by decide⟩) rfl (by decide) (ci := 3) rfl rfl rfl rfl (Nat.le_of_ble_eq_true rfl) dL_waive_5 ⟨by decide, by decide⟩ (fun E hx => ?_) (fun q qr => ?_)
  · rcases hx with ⟨rfl, hx⟩ | ⟨rfl, hx⟩ | ⟨rfl, hx⟩
    · refine gx_catch (name := "java/lang/IndexOutOfBoundsException") hC [] ⟨0, 17, 20, 21⟩ [] (by rw [hex]; rfl) (fun z hz => nomatch hz) rfl (by decide) (hts _ (by decide +kernel)) (va_Nw.use (A := args) rfl (hF.2.2.2.2.2.2.2.1 _ (by decide))) (fun q9 => ?_)
      refine gd_astore hC dL_waive_20 (by decide) (lv' := [(4, .ref q9), (0, .ref (a 0)), (1, zz_v x), (2, zz_v y), (3, .ref (a 99))]) rfl ?_
      refine gd_iconst hC dL_waive_22 ?_
      exact gd_ireturn hC hr rfl hlk dL_waive_23 (by decide) ⟨_, ⟨by decide, by decide⟩, rfl, Or.inr (Or.inl ⟨rfl, hx, rfl⟩)⟩
    · exact hx.elim
    · exact hx.elim
  · obtain ⟨itc, ioc, iac, icc, itd, idc, ilc, iab, idv, iow, ikd, idy, ims, ihm, ict, iwv, irm, ipl, ian, ist, idl, ipe, ifi, ias, ihe, ifn, iod, ity⟩ := id hI
    have hb := iwv x.toNat (by omega)
    refine gd_if_eq hC dL_waive_8 (tgt := 15) (by decide) qr (fun c1 => ?_) (fun c1 => ?_)
    · skip
      refine gd_lconst hC dL_waive_15 (z := 0) rfl ?_
      refine gd_topl (y := S (13 + x.toNat) 6) (by omega) ?_
      refine gd_last hC hK (j := 0) rfl (by decide) rfl (by decide) (by decide) qr dL_waive_16 ?_
      refine gd_goto hC dL_waive_17 (tgt := 24) (by decide) ?_
      refine gd_iconst hC dL_waive_24 ?_
      exact gd_ireturn hC hr rfl hlk dL_waive_25 (by decide) ⟨_, ⟨by decide, by decide⟩, rfl, Or.inl ⟨rfl, q, qr, rfl⟩⟩
    · skip
      refine gd_lconst hC dL_waive_11 (z := 1) rfl ?_
      refine gd_goto hC dL_waive_12 (tgt := 16) (by decide) ?_
      refine gd_topl (y := S (13 + x.toNat) 6) (by omega) ?_
      refine gd_last hC hK (j := 0) rfl (by decide) rfl (by decide) (by decide) qr dL_waive_16 ?_
      refine gd_goto hC dL_waive_17 (tgt := 24) (by decide) ?_
      refine gd_iconst hC dL_waive_24 ?_
      exact gd_ireturn hC hr rfl hlk dL_waive_25 (by decide) ⟨_, ⟨by decide, by decide⟩, rfl, Or.inl ⟨rfl, q, qr, rfl⟩⟩

abbrev rm_L_plea : Room := { frames := 8, cells := 3, slots := 18, locals := 125 }
set_option maxHeartbeats 4000000 in
set_option maxRecDepth 100000 in
theorem c_L_plea (l : Launch) (hl9 : l.stackTraces = false) (N0 : Nat) (G : zz_G) (Y : zz_Y) (a : Nat → Nat) (S : zz_S) (x y : Int) (hx : zz_R x) (hy : zz_R y) (hI : zz_IC S) : CtL l yL_plea wsL_plea rm_L_plea 3 [.ref (a 0), zz_v x, zz_v y] N0 G Y a S (zz_u (S) (37 + y.toNat) (x.toNat) (S 0 10)) (0) ((0 ≤ x ∧ x < 10) ∧ (0 ≤ y ∧ y < S 0 7) ∧ S (37 + y.toNat) x.toNat = -1) (¬ (0 ≤ x ∧ x < 10) ∨ ¬ (0 ≤ y ∧ y < S 0 7)) (False) ((0 ≤ x ∧ x < 10) ∧ (0 ≤ y ∧ y < S 0 7) ∧ ¬ S (37 + y.toNat) x.toNat = -1) 1 0 2 := by
  refine Ct_.ofH (cc := cL_plea) (maxL := 4) (ret := (some .int)) (hh := [(0, 6, 9, 21), (0, 6, 12, 15)]) (by decide) rfl (Nat.le_of_ble_eq_true rfl) ?_
  intro p e s m args below meth c hC hts hr hlk hex hF
  have hK := hF.2.1
  refine gd_lveq (lv' := [(0, .ref (a 0)), (1, zz_v x), (2, zz_v y)]) rfl ?_
  refine gd_aload_n hC dL_plea_0 rfl (j := 0) rfl ?_
  refine gd_iload_n hC dL_plea_1 rfl (j := 1) rfl ?_
  refine gd_iload_n hC dL_plea_2 rfl (j := 2) rfl ?_
  refine gd_callVN (As := [zz_v x, zz_v y]) (rest := []) hC hF (fun hR => c_X3_plea l hl9 N0 G Y a S x y hx hy hI) (cwV 2 hts gL_plea_X3_plea rfl rfl rfl (by decide +kernel) ⟨by decide, by decide⟩) rfl (by decide) (ci := 3) rfl rfl rfl rfl (Nat.le_of_ble_eq_true rfl) dL_plea_3 ⟨by decide, by decide⟩ (fun E hx => ?_) (fun q => ?_)
  · rcases hx with ⟨rfl, hx⟩ | ⟨rfl, hx⟩ | ⟨rfl, hx⟩
    · refine gx_catch (name := "java/lang/IndexOutOfBoundsException") hC [] ⟨0, 6, 9, 21⟩ [⟨0, 6, 12, 15⟩] (by rw [hex]; rfl) (fun z hz => nomatch hz) rfl (by decide) (hts _ (by decide +kernel)) (va_Nw.use (A := args) rfl (hF.2.2.2.2.2.2.2.1 _ (by decide))) (fun q9 => ?_)
      refine gd_astore_n hC dL_plea_9 rfl (by decide) (lv' := [(3, .ref q9), (0, .ref (a 0)), (1, zz_v x), (2, zz_v y)]) rfl ?_
      refine gd_iconst hC dL_plea_10 ?_
      exact gd_ireturn hC hr rfl hlk dL_plea_11 (by decide) ⟨_, ⟨by decide, by decide⟩, rfl, Or.inr (Or.inl ⟨rfl, hx, rfl⟩)⟩
    · exact hx.elim
    · refine gx_catch (name := "java/lang/IllegalStateException") hC [⟨0, 6, 9, 21⟩] ⟨0, 6, 12, 15⟩ [] (by rw [hex]; rfl) (fun z hz => by rcases List.mem_singleton.mp hz with rfl; exact Or.inr ⟨by decide, "java/lang/IndexOutOfBoundsException", hts _ (by decide +kernel), hF.2.2.2.2.2.2.2.2.1 _ (by decide) _ (by decide) (by decide)⟩) rfl (by decide) (hts _ (by decide +kernel)) (va_Nw.use (A := args) rfl (hF.2.2.2.2.2.2.2.1 _ (by decide))) (fun q9 => ?_)
      refine gd_astore_n hC dL_plea_12 rfl (by decide) (lv' := [(3, .ref q9), (0, .ref (a 0)), (1, zz_v x), (2, zz_v y)]) rfl ?_
      refine gd_iconst hC dL_plea_13 ?_
      exact gd_ireturn hC hr rfl hlk dL_plea_14 (by decide) ⟨_, ⟨by decide, by decide⟩, rfl, Or.inr (Or.inr (Or.inr ⟨rfl, hx, rfl⟩))⟩
  · skip
    refine gd_goto hC dL_plea_6 (tgt := 15) (by decide) ?_
    refine gd_iconst hC dL_plea_15 ?_
    exact gd_ireturn hC hr rfl hlk dL_plea_16 (by decide) ⟨_, ⟨by decide, by decide⟩, rfl, Or.inl ⟨rfl, q, ⟨by decide, by decide⟩, rfl⟩⟩

abbrev rm_L_bar : Room := { frames := 8, cells := 2, slots := 12, locals := 125 }
set_option maxHeartbeats 4000000 in
set_option maxRecDepth 100000 in
theorem c_L_bar (l : Launch) (hl9 : l.stackTraces = false) (N0 : Nat) (G : zz_G) (Y : zz_Y) (a : Nat → Nat) (S : zz_S) (x y : Int) (hx : zz_R x) (hy : zz_R y) (hI : zz_IC S) : CtL l yL_bar wsL_bar rm_L_bar 2 [.ref (a 0), zz_v x, zz_v y, .ref (a 99)] N0 G Y a S (zz_u (S) 99 0 (zz_ba S y.toNat x.toNat (S 0 10))) (zz_ba S y.toNat x.toNat (S 0 10)) ((0 ≤ x ∧ x < 10) ∧ (0 ≤ y ∧ y < S 0 7)) (¬ (0 ≤ x ∧ x < 10) ∨ ¬ (0 ≤ y ∧ y < S 0 7)) (False) (False) 1 0 0 := by
  refine Ct_.ofH (cc := cL_bar) (maxL := 5) (ret := (some .int)) (hh := [(0, 10, 13, 21)]) (by decide) rfl (Nat.le_of_ble_eq_true rfl) ?_
  intro p e s m args below meth c hC hts hr hlk hex hF
  have hK := hF.2.1
  refine gd_lveq (lv' := [(0, .ref (a 0)), (1, zz_v x), (2, zz_v y), (3, .ref (a 99))]) rfl ?_
  refine gd_aload_n hC dL_bar_0 rfl (j := 3) rfl ?_
  refine gd_iconst hC dL_bar_1 ?_
  refine gd_aload_n hC dL_bar_2 rfl (j := 0) rfl ?_
  refine gd_iload_n hC dL_bar_3 rfl (j := 1) rfl ?_
  refine gd_iload_n hC dL_bar_4 rfl (j := 2) rfl ?_
  refine gd_callVR (As := [zz_v x, zz_v y]) (rest := [zz_v 0, .ref (a 99)]) hC hF (fun hR => c_X3_bar l hl9 N0 G Y a S x y hx hy hI) (cwV 2 hts gL_bar_X3_bar rfl rfl rfl (by decide +kernel) ⟨by decide, by decide⟩) rfl (by decide) (ci := 3) rfl rfl rfl rfl (Nat.le_of_ble_eq_true rfl) dL_bar_5 ⟨by decide, by decide⟩ (fun E hx => ?_) (fun q qr => ?_)
  · rcases hx with ⟨rfl, hx⟩ | ⟨rfl, hx⟩ | ⟨rfl, hx⟩
    · refine gx_catch (name := "java/lang/IndexOutOfBoundsException") hC [] ⟨0, 10, 13, 21⟩ [] (by rw [hex]; rfl) (fun z hz => nomatch hz) rfl (by decide) (hts _ (by decide +kernel)) (va_Nw.use (A := args) rfl (hF.2.2.2.2.2.2.2.1 _ (by decide))) (fun q9 => ?_)
      refine gd_astore hC dL_bar_13 (by decide) (lv' := [(4, .ref q9), (0, .ref (a 0)), (1, zz_v x), (2, zz_v y), (3, .ref (a 99))]) rfl ?_
      refine gd_iconst hC dL_bar_15 ?_
      exact gd_ireturn hC hr rfl hlk dL_bar_16 (by decide) ⟨_, ⟨by decide, by decide⟩, rfl, Or.inr (Or.inl ⟨rfl, hx, rfl⟩)⟩
    · exact hx.elim
    · exact hx.elim
  · skip
    refine gd_i2l hC qr dL_bar_8 ?_
    refine gd_last hC hK (j := 0) rfl (by decide) rfl (by decide) (by decide) qr dL_bar_9 ?_
    refine gd_goto hC dL_bar_10 (tgt := 17) (by decide) ?_
    refine gd_iconst hC dL_bar_17 ?_
    exact gd_ireturn hC hr rfl hlk dL_bar_18 (by decide) ⟨_, ⟨by decide, by decide⟩, rfl, Or.inl ⟨rfl, q, qr, rfl⟩⟩

abbrev rm_L_complain : Room := { frames := 8, cells := 4, slots := 24, locals := 127 }
set_option maxHeartbeats 4000000 in
set_option maxRecDepth 100000 in
theorem c_L_complain (l : Launch) (hl9 : l.stackTraces = false) (N0 : Nat) (G : zz_G) (Y : zz_Y) (a : Nat → Nat) (S : zz_S) (x y : Int) (hx : zz_R x) (hy : zz_R y) (hI : zz_IC S) : CtL l yL_complain wsL_complain rm_L_complain 4 [.ref (a 0), zz_v x, zz_v y, .ref (a 99)] N0 G Y a S (zz_u (zz_cS S x y) 99 0 (if zz_cj S y (S 0 9).toNat 0 = -1 then S 0 9 else zz_cj S y (S 0 9).toNat 0)) (if zz_cj S y (S 0 9).toNat 0 = -1 then S 0 9 else zz_cj S y (S 0 9).toNat 0) ((0 ≤ x ∧ x < 10) ∧ (0 ≤ y ∧ y < S 0 7) ∧ zz_ba S y.toNat x.toNat (S 0 10) = 0 ∧ (zz_cj S y (S 0 9).toNat 0 = -1 → S 0 9 < 16)) (¬ (0 ≤ x ∧ x < 10) ∨ ¬ (0 ≤ y ∧ y < S 0 7)) (False) ((0 ≤ x ∧ x < 10) ∧ (0 ≤ y ∧ y < S 0 7) ∧ (¬ zz_ba S y.toNat x.toNat (S 0 10) = 0 ∨ (zz_cj S y (S 0 9).toNat 0 = -1 ∧ 16 ≤ S 0 9))) 1 0 2 := by
  refine Ct_.ofH (cc := cL_complain) (maxL := 5) (ret := (some .int)) (hh := [(0, 10, 13, 21), (0, 10, 17, 15)]) (by decide) rfl (Nat.le_of_ble_eq_true rfl) ?_
  intro p e s m args below meth c hC hts hr hlk hex hF
  have hK := hF.2.1
  refine gd_lveq (lv' := [(0, .ref (a 0)), (1, zz_v x), (2, zz_v y), (3, .ref (a 99))]) rfl ?_
  refine gd_aload_n hC dL_complain_0 rfl (j := 3) rfl ?_
  refine gd_iconst hC dL_complain_1 ?_
  refine gd_aload_n hC dL_complain_2 rfl (j := 0) rfl ?_
  refine gd_iload_n hC dL_complain_3 rfl (j := 1) rfl ?_
  refine gd_iload_n hC dL_complain_4 rfl (j := 2) rfl ?_
  refine gd_callVR (As := [zz_v x, zz_v y]) (rest := [zz_v 0, .ref (a 99)]) hC hF (fun hR => c_X3_complain l hl9 N0 G Y a S x y hx hy hI) (cwV 2 hts gL_complain_X3_complain rfl rfl rfl (by decide +kernel) ⟨by decide, by decide⟩) rfl (by decide) (ci := 3) rfl rfl rfl rfl (Nat.le_of_ble_eq_true rfl) dL_complain_5 ⟨by decide, by decide⟩ (fun E hx => ?_) (fun q qr => ?_)
  · rcases hx with ⟨rfl, hx⟩ | ⟨rfl, hx⟩ | ⟨rfl, hx⟩
    · refine gx_catch (name := "java/lang/IndexOutOfBoundsException") hC [] ⟨0, 10, 13, 21⟩ [⟨0, 10, 17, 15⟩] (by rw [hex]; rfl) (fun z hz => nomatch hz) rfl (by decide) (hts _ (by decide +kernel)) (va_Nw.use (A := args) rfl (hF.2.2.2.2.2.2.2.1 _ (by decide))) (fun q9 => ?_)
      refine gd_astore hC dL_complain_13 (by decide) (lv' := [(4, .ref q9), (0, .ref (a 0)), (1, zz_v x), (2, zz_v y), (3, .ref (a 99))]) rfl ?_
      refine gd_iconst hC dL_complain_15 ?_
      exact gd_ireturn hC hr rfl hlk dL_complain_16 (by decide) ⟨_, ⟨by decide, by decide⟩, rfl, Or.inr (Or.inl ⟨rfl, hx, rfl⟩)⟩
    · exact hx.elim
    · refine gx_catch (name := "java/lang/IllegalStateException") hC [⟨0, 10, 13, 21⟩] ⟨0, 10, 17, 15⟩ [] (by rw [hex]; rfl) (fun z hz => by rcases List.mem_singleton.mp hz with rfl; exact Or.inr ⟨by decide, "java/lang/IndexOutOfBoundsException", hts _ (by decide +kernel), hF.2.2.2.2.2.2.2.2.1 _ (by decide) _ (by decide) (by decide)⟩) rfl (by decide) (hts _ (by decide +kernel)) (va_Nw.use (A := args) rfl (hF.2.2.2.2.2.2.2.1 _ (by decide))) (fun q9 => ?_)
      refine gd_astore hC dL_complain_17 (by decide) (lv' := [(4, .ref q9), (0, .ref (a 0)), (1, zz_v x), (2, zz_v y), (3, .ref (a 99))]) rfl ?_
      refine gd_iconst hC dL_complain_19 ?_
      exact gd_ireturn hC hr rfl hlk dL_complain_20 (by decide) ⟨_, ⟨by decide, by decide⟩, rfl, Or.inr (Or.inr (Or.inr ⟨rfl, hx, rfl⟩))⟩
  · skip
    refine gd_i2l hC qr dL_complain_8 ?_
    refine gd_last hC hK (j := 0) rfl (by decide) rfl (by decide) (by decide) qr dL_complain_9 ?_
    refine gd_goto hC dL_complain_10 (tgt := 21) (by decide) ?_
    refine gd_iconst hC dL_complain_21 ?_
    exact gd_ireturn hC hr rfl hlk dL_complain_22 (by decide) ⟨_, ⟨by decide, by decide⟩, rfl, Or.inl ⟨rfl, q, qr, rfl⟩⟩

abbrev rm_L_ask : Room := { frames := 8, cells := 2, slots := 12, locals := 125 }
set_option maxHeartbeats 4000000 in
set_option maxRecDepth 100000 in
theorem c_L_ask (l : Launch) (hl9 : l.stackTraces = false) (N0 : Nat) (G : zz_G) (Y : zz_Y) (a : Nat → Nat) (S : zz_S) (x : Int) (hx : zz_R x) (hI : zz_IC S) : CtL l yL_ask wsL_ask rm_L_ask 2 [.ref (a 0), zz_v x, .ref (a 99)] N0 G Y a S (zz_u (zz_u (zz_u (S) (61 + x.toNat) (4) (1)) (61 + x.toNat) (5) (S 0 10)) 99 0 (S (13 + (S (61 + x.toNat) 0).toNat) 0)) (S (13 + (S (61 + x.toNat) 0).toNat) 0) ((0 ≤ x ∧ x < S 0 9) ∧ S (61 + x.toNat) 1 = 0 ∧ S (61 + x.toNat) 4 = 0) (¬ (0 ≤ x ∧ x < S 0 9)) (False) ((0 ≤ x ∧ x < S 0 9) ∧ ¬ (S (61 + x.toNat) 1 = 0 ∧ S (61 + x.toNat) 4 = 0)) 1 0 2 := by
  refine Ct_.ofH (cc := cL_ask) (maxL := 4) (ret := (some .int)) (hh := [(0, 9, 12, 21), (0, 9, 15, 15)]) (by decide) rfl (Nat.le_of_ble_eq_true rfl) ?_
  intro p e s m args below meth c hC hts hr hlk hex hF
  have hK := hF.2.1
  refine gd_lveq (lv' := [(0, .ref (a 0)), (1, zz_v x), (2, .ref (a 99))]) rfl ?_
  refine gd_aload_n hC dL_ask_0 rfl (j := 2) rfl ?_
  refine gd_iconst hC dL_ask_1 ?_
  refine gd_aload_n hC dL_ask_2 rfl (j := 0) rfl ?_
  refine gd_iload_n hC dL_ask_3 rfl (j := 1) rfl ?_
  refine gd_callVR (As := [zz_v x]) (rest := [zz_v 0, .ref (a 99)]) hC hF (fun hR => c_X3_ask l hl9 N0 G Y a S x hx hI) (cwV 1 hts gL_ask_X3_ask rfl rfl rfl (by decide +kernel) ⟨by decide, by decide⟩) rfl (by decide) (ci := 3) rfl rfl rfl rfl (Nat.le_of_ble_eq_true rfl) dL_ask_4 ⟨by decide, by decide⟩ (fun E hx => ?_) (fun q qr => ?_)
  · rcases hx with ⟨rfl, hx⟩ | ⟨rfl, hx⟩ | ⟨rfl, hx⟩
    · refine gx_catch (name := "java/lang/IndexOutOfBoundsException") hC [] ⟨0, 9, 12, 21⟩ [⟨0, 9, 15, 15⟩] (by rw [hex]; rfl) (fun z hz => nomatch hz) rfl (by decide) (hts _ (by decide +kernel)) (va_Nw.use (A := args) rfl (hF.2.2.2.2.2.2.2.1 _ (by decide))) (fun q9 => ?_)
      refine gd_astore_n hC dL_ask_12 rfl (by decide) (lv' := [(3, .ref q9), (0, .ref (a 0)), (1, zz_v x), (2, .ref (a 99))]) rfl ?_
      refine gd_iconst hC dL_ask_13 ?_
      exact gd_ireturn hC hr rfl hlk dL_ask_14 (by decide) ⟨_, ⟨by decide, by decide⟩, rfl, Or.inr (Or.inl ⟨rfl, hx, rfl⟩)⟩
    · exact hx.elim
    · refine gx_catch (name := "java/lang/IllegalStateException") hC [⟨0, 9, 12, 21⟩] ⟨0, 9, 15, 15⟩ [] (by rw [hex]; rfl) (fun z hz => by rcases List.mem_singleton.mp hz with rfl; exact Or.inr ⟨by decide, "java/lang/IndexOutOfBoundsException", hts _ (by decide +kernel), hF.2.2.2.2.2.2.2.2.1 _ (by decide) _ (by decide) (by decide)⟩) rfl (by decide) (hts _ (by decide +kernel)) (va_Nw.use (A := args) rfl (hF.2.2.2.2.2.2.2.1 _ (by decide))) (fun q9 => ?_)
      refine gd_astore_n hC dL_ask_15 rfl (by decide) (lv' := [(3, .ref q9), (0, .ref (a 0)), (1, zz_v x), (2, .ref (a 99))]) rfl ?_
      refine gd_iconst hC dL_ask_16 ?_
      exact gd_ireturn hC hr rfl hlk dL_ask_17 (by decide) ⟨_, ⟨by decide, by decide⟩, rfl, Or.inr (Or.inr (Or.inr ⟨rfl, hx, rfl⟩))⟩
  · skip
    refine gd_i2l hC qr dL_ask_7 ?_
    refine gd_last hC hK (j := 0) rfl (by decide) rfl (by decide) (by decide) qr dL_ask_8 ?_
    refine gd_goto hC dL_ask_9 (tgt := 18) (by decide) ?_
    refine gd_iconst hC dL_ask_18 ?_
    exact gd_ireturn hC hr rfl hlk dL_ask_19 (by decide) ⟨_, ⟨by decide, by decide⟩, rfl, Or.inl ⟨rfl, q, qr, rfl⟩⟩

abbrev rm_L_answer : Room := { frames := 8, cells := 2, slots := 12, locals := 125 }
set_option maxHeartbeats 4000000 in
set_option maxRecDepth 100000 in
theorem c_L_answer (l : Launch) (hl9 : l.stackTraces = false) (N0 : Nat) (G : zz_G) (Y : zz_Y) (a : Nat → Nat) (S : zz_S) (x : Int) (hx : zz_R x) (hI : zz_IC S) : CtL l yL_answer wsL_answer rm_L_answer 2 [.ref (a 0), zz_v x, .ref (a 99)] N0 G Y a S (zz_u (zz_u (S) (61 + x.toNat) (4) (2)) 99 0 (S 0 10 - S (61 + x.toNat) 5)) (S 0 10 - S (61 + x.toNat) 5) ((0 ≤ x ∧ x < S 0 9) ∧ S (61 + x.toNat) 4 = 1) (¬ (0 ≤ x ∧ x < S 0 9)) (False) ((0 ≤ x ∧ x < S 0 9) ∧ ¬ S (61 + x.toNat) 4 = 1) 1 0 2 := by
  refine Ct_.ofH (cc := cL_answer) (maxL := 4) (ret := (some .int)) (hh := [(0, 9, 12, 21), (0, 9, 15, 15)]) (by decide) rfl (Nat.le_of_ble_eq_true rfl) ?_
  intro p e s m args below meth c hC hts hr hlk hex hF
  have hK := hF.2.1
  refine gd_lveq (lv' := [(0, .ref (a 0)), (1, zz_v x), (2, .ref (a 99))]) rfl ?_
  refine gd_aload_n hC dL_answer_0 rfl (j := 2) rfl ?_
  refine gd_iconst hC dL_answer_1 ?_
  refine gd_aload_n hC dL_answer_2 rfl (j := 0) rfl ?_
  refine gd_iload_n hC dL_answer_3 rfl (j := 1) rfl ?_
  refine gd_callVR (As := [zz_v x]) (rest := [zz_v 0, .ref (a 99)]) hC hF (fun hR => c_X3_answer l hl9 N0 G Y a S x hx hI) (cwV 1 hts gL_answer_X3_answer rfl rfl rfl (by decide +kernel) ⟨by decide, by decide⟩) rfl (by decide) (ci := 3) rfl rfl rfl rfl (Nat.le_of_ble_eq_true rfl) dL_answer_4 ⟨by decide, by decide⟩ (fun E hx => ?_) (fun q qr => ?_)
  · rcases hx with ⟨rfl, hx⟩ | ⟨rfl, hx⟩ | ⟨rfl, hx⟩
    · refine gx_catch (name := "java/lang/IndexOutOfBoundsException") hC [] ⟨0, 9, 12, 21⟩ [⟨0, 9, 15, 15⟩] (by rw [hex]; rfl) (fun z hz => nomatch hz) rfl (by decide) (hts _ (by decide +kernel)) (va_Nw.use (A := args) rfl (hF.2.2.2.2.2.2.2.1 _ (by decide))) (fun q9 => ?_)
      refine gd_astore_n hC dL_answer_12 rfl (by decide) (lv' := [(3, .ref q9), (0, .ref (a 0)), (1, zz_v x), (2, .ref (a 99))]) rfl ?_
      refine gd_iconst hC dL_answer_13 ?_
      exact gd_ireturn hC hr rfl hlk dL_answer_14 (by decide) ⟨_, ⟨by decide, by decide⟩, rfl, Or.inr (Or.inl ⟨rfl, hx, rfl⟩)⟩
    · exact hx.elim
    · refine gx_catch (name := "java/lang/IllegalStateException") hC [⟨0, 9, 12, 21⟩] ⟨0, 9, 15, 15⟩ [] (by rw [hex]; rfl) (fun z hz => by rcases List.mem_singleton.mp hz with rfl; exact Or.inr ⟨by decide, "java/lang/IndexOutOfBoundsException", hts _ (by decide +kernel), hF.2.2.2.2.2.2.2.2.1 _ (by decide) _ (by decide) (by decide)⟩) rfl (by decide) (hts _ (by decide +kernel)) (va_Nw.use (A := args) rfl (hF.2.2.2.2.2.2.2.1 _ (by decide))) (fun q9 => ?_)
      refine gd_astore_n hC dL_answer_15 rfl (by decide) (lv' := [(3, .ref q9), (0, .ref (a 0)), (1, zz_v x), (2, .ref (a 99))]) rfl ?_
      refine gd_iconst hC dL_answer_16 ?_
      exact gd_ireturn hC hr rfl hlk dL_answer_17 (by decide) ⟨_, ⟨by decide, by decide⟩, rfl, Or.inr (Or.inr (Or.inr ⟨rfl, hx, rfl⟩))⟩
  · skip
    refine gd_i2l hC qr dL_answer_7 ?_
    refine gd_last hC hK (j := 0) rfl (by decide) rfl (by decide) (by decide) qr dL_answer_8 ?_
    refine gd_goto hC dL_answer_9 (tgt := 18) (by decide) ?_
    refine gd_iconst hC dL_answer_18 ?_
    exact gd_ireturn hC hr rfl hlk dL_answer_19 (by decide) ⟨_, ⟨by decide, by decide⟩, rfl, Or.inl ⟨rfl, q, qr, rfl⟩⟩

abbrev rm_L_hear : Room := { frames := 8, cells := 2, slots := 12, locals := 125 }
set_option maxHeartbeats 4000000 in
set_option maxRecDepth 100000 in
theorem c_L_hear (l : Launch) (hl9 : l.stackTraces = false) (N0 : Nat) (G : zz_G) (Y : zz_Y) (a : Nat → Nat) (S : zz_S) (x : Int) (hx : zz_R x) (hI : zz_IC S) : CtL l yL_hear wsL_hear rm_L_hear 2 [.ref (a 0), zz_v x] N0 G Y a S (zz_u (S) (61 + x.toNat) (6) (1)) (0) ((0 ≤ x ∧ x < S 0 9) ∧ S (61 + x.toNat) 1 = 0 ∧ S (61 + x.toNat) 4 = 2 ∧ S (61 + x.toNat) 6 = 0) (¬ (0 ≤ x ∧ x < S 0 9)) (False) ((0 ≤ x ∧ x < S 0 9) ∧ ¬ (S (61 + x.toNat) 1 = 0 ∧ S (61 + x.toNat) 4 = 2 ∧ S (61 + x.toNat) 6 = 0)) 1 0 2 := by
  refine Ct_.ofH (cc := cL_hear) (maxL := 3) (ret := (some .int)) (hh := [(0, 5, 8, 21), (0, 5, 11, 15)]) (by decide) rfl (Nat.le_of_ble_eq_true rfl) ?_
  intro p e s m args below meth c hC hts hr hlk hex hF
  have hK := hF.2.1
  refine gd_lveq (lv' := [(0, .ref (a 0)), (1, zz_v x)]) rfl ?_
  refine gd_aload_n hC dL_hear_0 rfl (j := 0) rfl ?_
  refine gd_iload_n hC dL_hear_1 rfl (j := 1) rfl ?_
  refine gd_callVN (As := [zz_v x]) (rest := []) hC hF (fun hR => c_X3_hear l hl9 N0 G Y a S x hx hI) (cwV 1 hts gL_hear_X3_hear rfl rfl rfl (by decide +kernel) ⟨by decide, by decide⟩) rfl (by decide) (ci := 3) rfl rfl rfl rfl (Nat.le_of_ble_eq_true rfl) dL_hear_2 ⟨by decide, by decide⟩ (fun E hx => ?_) (fun q => ?_)
  · rcases hx with ⟨rfl, hx⟩ | ⟨rfl, hx⟩ | ⟨rfl, hx⟩
    · refine gx_catch (name := "java/lang/IndexOutOfBoundsException") hC [] ⟨0, 5, 8, 21⟩ [⟨0, 5, 11, 15⟩] (by rw [hex]; rfl) (fun z hz => nomatch hz) rfl (by decide) (hts _ (by decide +kernel)) (va_Nw.use (A := args) rfl (hF.2.2.2.2.2.2.2.1 _ (by decide))) (fun q9 => ?_)
      refine gd_astore_n hC dL_hear_8 rfl (by decide) (lv' := [(2, .ref q9), (0, .ref (a 0)), (1, zz_v x)]) rfl ?_
      refine gd_iconst hC dL_hear_9 ?_
      exact gd_ireturn hC hr rfl hlk dL_hear_10 (by decide) ⟨_, ⟨by decide, by decide⟩, rfl, Or.inr (Or.inl ⟨rfl, hx, rfl⟩)⟩
    · exact hx.elim
    · refine gx_catch (name := "java/lang/IllegalStateException") hC [⟨0, 5, 8, 21⟩] ⟨0, 5, 11, 15⟩ [] (by rw [hex]; rfl) (fun z hz => by rcases List.mem_singleton.mp hz with rfl; exact Or.inr ⟨by decide, "java/lang/IndexOutOfBoundsException", hts _ (by decide +kernel), hF.2.2.2.2.2.2.2.2.1 _ (by decide) _ (by decide) (by decide)⟩) rfl (by decide) (hts _ (by decide +kernel)) (va_Nw.use (A := args) rfl (hF.2.2.2.2.2.2.2.1 _ (by decide))) (fun q9 => ?_)
      refine gd_astore_n hC dL_hear_11 rfl (by decide) (lv' := [(2, .ref q9), (0, .ref (a 0)), (1, zz_v x)]) rfl ?_
      refine gd_iconst hC dL_hear_12 ?_
      exact gd_ireturn hC hr rfl hlk dL_hear_13 (by decide) ⟨_, ⟨by decide, by decide⟩, rfl, Or.inr (Or.inr (Or.inr ⟨rfl, hx, rfl⟩))⟩
  · skip
    refine gd_goto hC dL_hear_5 (tgt := 14) (by decide) ?_
    refine gd_iconst hC dL_hear_14 ?_
    exact gd_ireturn hC hr rfl hlk dL_hear_15 (by decide) ⟨_, ⟨by decide, by decide⟩, rfl, Or.inl ⟨rfl, q, ⟨by decide, by decide⟩, rfl⟩⟩

abbrev rm_L_find : Room := { frames := 8, cells := 2, slots := 12, locals := 125 }
set_option maxHeartbeats 4000000 in
set_option maxRecDepth 100000 in
theorem c_L_find (l : Launch) (hl9 : l.stackTraces = false) (N0 : Nat) (G : zz_G) (Y : zz_Y) (a : Nat → Nat) (S : zz_S) (x : Int) (hx : zz_R x) (hI : zz_IC S) : CtL l yL_find wsL_find rm_L_find 2 [.ref (a 0), zz_v x, .ref (a 99)] N0 G Y a S (zz_u (zz_u (zz_u (S) (61 + x.toNat) (7) ((zz_ft S (S (61 + x.toNat) 0).toNat))) (61 + x.toNat) (1) (1)) 99 0 (zz_ft S (S (61 + x.toNat) 0).toNat)) (zz_ft S (S (61 + x.toNat) 0).toNat) ((0 ≤ x ∧ x < S 0 9) ∧ S (61 + x.toNat) 1 = 0 ∧ ¬ S (61 + x.toNat) 6 = 0) (¬ (0 ≤ x ∧ x < S 0 9)) (False) ((0 ≤ x ∧ x < S 0 9) ∧ ¬ (S (61 + x.toNat) 1 = 0 ∧ ¬ S (61 + x.toNat) 6 = 0)) 1 0 2 := by
  refine Ct_.ofH (cc := cL_find) (maxL := 4) (ret := (some .int)) (hh := [(0, 9, 12, 21), (0, 9, 15, 15)]) (by decide) rfl (Nat.le_of_ble_eq_true rfl) ?_
  intro p e s m args below meth c hC hts hr hlk hex hF
  have hK := hF.2.1
  refine gd_lveq (lv' := [(0, .ref (a 0)), (1, zz_v x), (2, .ref (a 99))]) rfl ?_
  refine gd_aload_n hC dL_find_0 rfl (j := 2) rfl ?_
  refine gd_iconst hC dL_find_1 ?_
  refine gd_aload_n hC dL_find_2 rfl (j := 0) rfl ?_
  refine gd_iload_n hC dL_find_3 rfl (j := 1) rfl ?_
  refine gd_callVR (As := [zz_v x]) (rest := [zz_v 0, .ref (a 99)]) hC hF (fun hR => c_X3_find l hl9 N0 G Y a S x hx hI) (cwV 1 hts gL_find_X3_find rfl rfl rfl (by decide +kernel) ⟨by decide, by decide⟩) rfl (by decide) (ci := 3) rfl rfl rfl rfl (Nat.le_of_ble_eq_true rfl) dL_find_4 ⟨by decide, by decide⟩ (fun E hx => ?_) (fun q qr => ?_)
  · rcases hx with ⟨rfl, hx⟩ | ⟨rfl, hx⟩ | ⟨rfl, hx⟩
    · refine gx_catch (name := "java/lang/IndexOutOfBoundsException") hC [] ⟨0, 9, 12, 21⟩ [⟨0, 9, 15, 15⟩] (by rw [hex]; rfl) (fun z hz => nomatch hz) rfl (by decide) (hts _ (by decide +kernel)) (va_Nw.use (A := args) rfl (hF.2.2.2.2.2.2.2.1 _ (by decide))) (fun q9 => ?_)
      refine gd_astore_n hC dL_find_12 rfl (by decide) (lv' := [(3, .ref q9), (0, .ref (a 0)), (1, zz_v x), (2, .ref (a 99))]) rfl ?_
      refine gd_iconst hC dL_find_13 ?_
      exact gd_ireturn hC hr rfl hlk dL_find_14 (by decide) ⟨_, ⟨by decide, by decide⟩, rfl, Or.inr (Or.inl ⟨rfl, hx, rfl⟩)⟩
    · exact hx.elim
    · refine gx_catch (name := "java/lang/IllegalStateException") hC [⟨0, 9, 12, 21⟩] ⟨0, 9, 15, 15⟩ [] (by rw [hex]; rfl) (fun z hz => by rcases List.mem_singleton.mp hz with rfl; exact Or.inr ⟨by decide, "java/lang/IndexOutOfBoundsException", hts _ (by decide +kernel), hF.2.2.2.2.2.2.2.2.1 _ (by decide) _ (by decide) (by decide)⟩) rfl (by decide) (hts _ (by decide +kernel)) (va_Nw.use (A := args) rfl (hF.2.2.2.2.2.2.2.1 _ (by decide))) (fun q9 => ?_)
      refine gd_astore_n hC dL_find_15 rfl (by decide) (lv' := [(3, .ref q9), (0, .ref (a 0)), (1, zz_v x), (2, .ref (a 99))]) rfl ?_
      refine gd_iconst hC dL_find_16 ?_
      exact gd_ireturn hC hr rfl hlk dL_find_17 (by decide) ⟨_, ⟨by decide, by decide⟩, rfl, Or.inr (Or.inr (Or.inr ⟨rfl, hx, rfl⟩))⟩
  · skip
    refine gd_i2l hC qr dL_find_7 ?_
    refine gd_last hC hK (j := 0) rfl (by decide) rfl (by decide) (by decide) qr dL_find_8 ?_
    refine gd_goto hC dL_find_9 (tgt := 18) (by decide) ?_
    refine gd_iconst hC dL_find_18 ?_
    exact gd_ireturn hC hr rfl hlk dL_find_19 (by decide) ⟨_, ⟨by decide, by decide⟩, rfl, Or.inl ⟨rfl, q, qr, rfl⟩⟩

abbrev rm_L_remedy : Room := { frames := 8, cells := 3, slots := 18, locals := 129 }
set_option maxHeartbeats 4000000 in
set_option maxRecDepth 100000 in
theorem c_L_remedy (l : Launch) (hl9 : l.stackTraces = false) (N0 : Nat) (G : zz_G) (Y : zz_Y) (a : Nat → Nat) (S : zz_S) (x y : Int) (hx : zz_R x) (hy : zz_R y) (hI : zz_IC S) : CtL l yL_remedy wsL_remedy rm_L_remedy 3 [.ref (a 0), zz_v x, zz_v y, .ref (a 99)] N0 G Y a S (zz_u (zz_rS S x.toNat y (S 0 7).toNat) 99 0 (zz_rn S x.toNat (S 0 7).toNat)) (zz_rn S x.toNat (S 0 7).toNat) ((0 ≤ x ∧ x < S 0 9) ∧ (0 ≤ y ∧ y ≤ 100) ∧ S (61 + x.toNat) 1 = 1 ∧ ¬ S (61 + x.toNat) 7 = 0) (¬ (0 ≤ x ∧ x < S 0 9)) ((0 ≤ x ∧ x < S 0 9) ∧ ¬ (0 ≤ y ∧ y ≤ 100)) ((0 ≤ x ∧ x < S 0 9) ∧ (0 ≤ y ∧ y ≤ 100) ∧ ¬ (S (61 + x.toNat) 1 = 1 ∧ ¬ S (61 + x.toNat) 7 = 0)) 1 2 3 := by
  refine Ct_.ofH (cc := cL_remedy) (maxL := 5) (ret := (some .int)) (hh := [(0, 10, 13, 21), (0, 10, 17, 13), (0, 10, 21, 15)]) (by decide) rfl (Nat.le_of_ble_eq_true rfl) ?_
  intro p e s m args below meth c hC hts hr hlk hex hF
  have hK := hF.2.1
  refine gd_lveq (lv' := [(0, .ref (a 0)), (1, zz_v x), (2, zz_v y), (3, .ref (a 99))]) rfl ?_
  refine gd_aload_n hC dL_remedy_0 rfl (j := 3) rfl ?_
  refine gd_iconst hC dL_remedy_1 ?_
  refine gd_aload_n hC dL_remedy_2 rfl (j := 0) rfl ?_
  refine gd_iload_n hC dL_remedy_3 rfl (j := 1) rfl ?_
  refine gd_iload_n hC dL_remedy_4 rfl (j := 2) rfl ?_
  refine gd_callVR (As := [zz_v x, zz_v y]) (rest := [zz_v 0, .ref (a 99)]) hC hF (fun hR => c_X3_remedy l hl9 N0 G Y a S x y hx hy hI) (cwV 2 hts gL_remedy_X3_remedy rfl rfl rfl (by decide +kernel) ⟨by decide, by decide⟩) rfl (by decide) (ci := 3) rfl rfl rfl rfl (Nat.le_of_ble_eq_true rfl) dL_remedy_5 ⟨by decide, by decide⟩ (fun E hx => ?_) (fun q qr => ?_)
  · rcases hx with ⟨rfl, hx⟩ | ⟨rfl, hx⟩ | ⟨rfl, hx⟩
    · refine gx_catch (name := "java/lang/IndexOutOfBoundsException") hC [] ⟨0, 10, 13, 21⟩ [⟨0, 10, 17, 13⟩, ⟨0, 10, 21, 15⟩] (by rw [hex]; rfl) (fun z hz => nomatch hz) rfl (by decide) (hts _ (by decide +kernel)) (va_Nw.use (A := args) rfl (hF.2.2.2.2.2.2.2.1 _ (by decide))) (fun q9 => ?_)
      refine gd_astore hC dL_remedy_13 (by decide) (lv' := [(4, .ref q9), (0, .ref (a 0)), (1, zz_v x), (2, zz_v y), (3, .ref (a 99))]) rfl ?_
      refine gd_iconst hC dL_remedy_15 ?_
      exact gd_ireturn hC hr rfl hlk dL_remedy_16 (by decide) ⟨_, ⟨by decide, by decide⟩, rfl, Or.inr (Or.inl ⟨rfl, hx, rfl⟩)⟩
    · refine gx_catch (name := "java/lang/IllegalArgumentException") hC [⟨0, 10, 13, 21⟩] ⟨0, 10, 17, 13⟩ [⟨0, 10, 21, 15⟩] (by rw [hex]; rfl) (fun z hz => by rcases List.mem_singleton.mp hz with rfl; exact Or.inr ⟨by decide, "java/lang/IndexOutOfBoundsException", hts _ (by decide +kernel), hF.2.2.2.2.2.2.2.2.1 _ (by decide) _ (by decide) (by decide)⟩) rfl (by decide) (hts _ (by decide +kernel)) (va_Nw.use (A := args) rfl (hF.2.2.2.2.2.2.2.1 _ (by decide))) (fun q9 => ?_)
      refine gd_astore hC dL_remedy_17 (by decide) (lv' := [(4, .ref q9), (0, .ref (a 0)), (1, zz_v x), (2, zz_v y), (3, .ref (a 99))]) rfl ?_
      refine gd_iconst hC dL_remedy_19 ?_
      exact gd_ireturn hC hr rfl hlk dL_remedy_20 (by decide) ⟨_, ⟨by decide, by decide⟩, rfl, Or.inr (Or.inr (Or.inl ⟨rfl, hx, rfl⟩))⟩
    · refine gx_catch (name := "java/lang/IllegalStateException") hC [⟨0, 10, 13, 21⟩, ⟨0, 10, 17, 13⟩] ⟨0, 10, 21, 15⟩ [] (by rw [hex]; rfl) (fun z hz => by rcases List.mem_cons.mp hz with rfl | hz; exact Or.inr ⟨by decide, "java/lang/IndexOutOfBoundsException", hts _ (by decide +kernel), hF.2.2.2.2.2.2.2.2.1 _ (by decide) _ (by decide) (by decide)⟩; rcases List.mem_singleton.mp hz with rfl; exact Or.inr ⟨by decide, "java/lang/IllegalArgumentException", hts _ (by decide +kernel), hF.2.2.2.2.2.2.2.2.1 _ (by decide) _ (by decide) (by decide)⟩) rfl (by decide) (hts _ (by decide +kernel)) (va_Nw.use (A := args) rfl (hF.2.2.2.2.2.2.2.1 _ (by decide))) (fun q9 => ?_)
      refine gd_astore hC dL_remedy_21 (by decide) (lv' := [(4, .ref q9), (0, .ref (a 0)), (1, zz_v x), (2, zz_v y), (3, .ref (a 99))]) rfl ?_
      refine gd_iconst hC dL_remedy_23 ?_
      exact gd_ireturn hC hr rfl hlk dL_remedy_24 (by decide) ⟨_, ⟨by decide, by decide⟩, rfl, Or.inr (Or.inr (Or.inr ⟨rfl, hx, rfl⟩))⟩
  · skip
    refine gd_i2l hC qr dL_remedy_8 ?_
    refine gd_last hC hK (j := 0) rfl (by decide) rfl (by decide) (by decide) qr dL_remedy_9 ?_
    refine gd_goto hC dL_remedy_10 (tgt := 25) (by decide) ?_
    refine gd_iconst hC dL_remedy_25 ?_
    exact gd_ireturn hC hr rfl hlk dL_remedy_26 (by decide) ⟨_, ⟨by decide, by decide⟩, rfl, Or.inl ⟨rfl, q, qr, rfl⟩⟩

abbrev rm_L_pass : Room := { frames := 8, cells := 2, slots := 12, locals := 126 }
set_option maxHeartbeats 4000000 in
set_option maxRecDepth 100000 in
theorem c_L_pass (l : Launch) (hl9 : l.stackTraces = false) (N0 : Nat) (G : zz_G) (Y : zz_Y) (a : Nat → Nat) (S : zz_S) (x : Int) (hx : zz_R x) (hI : zz_IC S) : CtL l yL_pass wsL_pass rm_L_pass 2 [.ref (a 0), zz_v x, .ref (a 99)] N0 G Y a S (zz_u (zz_pS (zz_u S 0 10 (S 0 10 + x)) x (S 0 9).toNat) 99 0 (S 0 10 + x)) (S 0 10 + x) (1 ≤ x ∧ x ≤ 100 ∧ S 0 10 + x ≤ 5000) (False) (¬ (1 ≤ x ∧ x ≤ 100)) ((1 ≤ x ∧ x ≤ 100) ∧ 5000 < S 0 10 + x) 0 1 2 := by
  refine Ct_.ofH (cc := cL_pass) (maxL := 4) (ret := (some .int)) (hh := [(0, 9, 12, 13), (0, 9, 15, 15)]) (by decide) rfl (Nat.le_of_ble_eq_true rfl) ?_
  intro p e s m args below meth c hC hts hr hlk hex hF
  have hK := hF.2.1
  refine gd_lveq (lv' := [(0, .ref (a 0)), (1, zz_v x), (2, .ref (a 99))]) rfl ?_
  refine gd_aload_n hC dL_pass_0 rfl (j := 2) rfl ?_
  refine gd_iconst hC dL_pass_1 ?_
  refine gd_aload_n hC dL_pass_2 rfl (j := 0) rfl ?_
  refine gd_iload_n hC dL_pass_3 rfl (j := 1) rfl ?_
  refine gd_callVR (As := [zz_v x]) (rest := [zz_v 0, .ref (a 99)]) hC hF (fun hR => c_X3_pass l hl9 N0 G Y a S x hx hI) (cwV 1 hts gL_pass_X3_pass rfl rfl rfl (by decide +kernel) ⟨by decide, by decide⟩) rfl (by decide) (ci := 3) rfl rfl rfl rfl (Nat.le_of_ble_eq_true rfl) dL_pass_4 ⟨by decide, by decide⟩ (fun E hx => ?_) (fun q qr => ?_)
  · rcases hx with ⟨rfl, hx⟩ | ⟨rfl, hx⟩ | ⟨rfl, hx⟩
    · exact hx.elim
    · refine gx_catch (name := "java/lang/IllegalArgumentException") hC [] ⟨0, 9, 12, 13⟩ [⟨0, 9, 15, 15⟩] (by rw [hex]; rfl) (fun z hz => nomatch hz) rfl (by decide) (hts _ (by decide +kernel)) (va_Nw.use (A := args) rfl (hF.2.2.2.2.2.2.2.1 _ (by decide))) (fun q9 => ?_)
      refine gd_astore_n hC dL_pass_12 rfl (by decide) (lv' := [(3, .ref q9), (0, .ref (a 0)), (1, zz_v x), (2, .ref (a 99))]) rfl ?_
      refine gd_iconst hC dL_pass_13 ?_
      exact gd_ireturn hC hr rfl hlk dL_pass_14 (by decide) ⟨_, ⟨by decide, by decide⟩, rfl, Or.inr (Or.inr (Or.inl ⟨rfl, hx, rfl⟩))⟩
    · refine gx_catch (name := "java/lang/IllegalStateException") hC [⟨0, 9, 12, 13⟩] ⟨0, 9, 15, 15⟩ [] (by rw [hex]; rfl) (fun z hz => by rcases List.mem_singleton.mp hz with rfl; exact Or.inr ⟨by decide, "java/lang/IllegalArgumentException", hts _ (by decide +kernel), hF.2.2.2.2.2.2.2.2.1 _ (by decide) _ (by decide) (by decide)⟩) rfl (by decide) (hts _ (by decide +kernel)) (va_Nw.use (A := args) rfl (hF.2.2.2.2.2.2.2.1 _ (by decide))) (fun q9 => ?_)
      refine gd_astore_n hC dL_pass_15 rfl (by decide) (lv' := [(3, .ref q9), (0, .ref (a 0)), (1, zz_v x), (2, .ref (a 99))]) rfl ?_
      refine gd_iconst hC dL_pass_16 ?_
      exact gd_ireturn hC hr rfl hlk dL_pass_17 (by decide) ⟨_, ⟨by decide, by decide⟩, rfl, Or.inr (Or.inr (Or.inr ⟨rfl, hx, rfl⟩))⟩
  · skip
    refine gd_i2l hC qr dL_pass_7 ?_
    refine gd_last hC hK (j := 0) rfl (by decide) rfl (by decide) (by decide) qr dL_pass_8 ?_
    refine gd_goto hC dL_pass_9 (tgt := 18) (by decide) ?_
    refine gd_iconst hC dL_pass_18 ?_
    exact gd_ireturn hC hr rfl hlk dL_pass_19 (by decide) ⟨_, ⟨by decide, by decide⟩, rfl, Or.inl ⟨rfl, q, qr, rfl⟩⟩

abbrev rm_L_about : Room := { frames := 8, cells := 2, slots := 12, locals := 127 }
set_option maxHeartbeats 4000000 in
set_option maxRecDepth 100000 in
theorem c_L_about (l : Launch) (hl9 : l.stackTraces = false) (N0 : Nat) (G : zz_G) (Y : zz_Y) (a : Nat → Nat) (S : zz_S) (x y : Int) (hx : zz_R x) (hy : zz_R y) (hI : zz_IC S) : CtL l yL_about wsL_about rm_L_about 2 [.ref (a 0), zz_v x, zz_v y, .ref (a 99)] N0 G Y a S (zz_u (S) 99 0 (zz_ab S x.toNat y)) (zz_ab S x.toNat y) ((0 ≤ x ∧ x < S 0 9) ∧ (0 ≤ y ∧ y ≤ 5)) (¬ (0 ≤ x ∧ x < S 0 9)) ((0 ≤ x ∧ x < S 0 9) ∧ ¬ (0 ≤ y ∧ y ≤ 5)) (False) 1 2 0 := by
  refine Ct_.ofH (cc := cL_about) (maxL := 5) (ret := (some .int)) (hh := [(0, 10, 13, 21), (0, 10, 17, 13)]) (by decide) rfl (Nat.le_of_ble_eq_true rfl) ?_
  intro p e s m args below meth c hC hts hr hlk hex hF
  have hK := hF.2.1
  refine gd_lveq (lv' := [(0, .ref (a 0)), (1, zz_v x), (2, zz_v y), (3, .ref (a 99))]) rfl ?_
  refine gd_aload_n hC dL_about_0 rfl (j := 3) rfl ?_
  refine gd_iconst hC dL_about_1 ?_
  refine gd_aload_n hC dL_about_2 rfl (j := 0) rfl ?_
  refine gd_iload_n hC dL_about_3 rfl (j := 1) rfl ?_
  refine gd_iload_n hC dL_about_4 rfl (j := 2) rfl ?_
  refine gd_callVR (As := [zz_v x, zz_v y]) (rest := [zz_v 0, .ref (a 99)]) hC hF (fun hR => c_X3_about l hl9 N0 G Y a S x y hx hy hI) (cwV 2 hts gL_about_X3_about rfl rfl rfl (by decide +kernel) ⟨by decide, by decide⟩) rfl (by decide) (ci := 3) rfl rfl rfl rfl (Nat.le_of_ble_eq_true rfl) dL_about_5 ⟨by decide, by decide⟩ (fun E hx => ?_) (fun q qr => ?_)
  · rcases hx with ⟨rfl, hx⟩ | ⟨rfl, hx⟩ | ⟨rfl, hx⟩
    · refine gx_catch (name := "java/lang/IndexOutOfBoundsException") hC [] ⟨0, 10, 13, 21⟩ [⟨0, 10, 17, 13⟩] (by rw [hex]; rfl) (fun z hz => nomatch hz) rfl (by decide) (hts _ (by decide +kernel)) (va_Nw.use (A := args) rfl (hF.2.2.2.2.2.2.2.1 _ (by decide))) (fun q9 => ?_)
      refine gd_astore hC dL_about_13 (by decide) (lv' := [(4, .ref q9), (0, .ref (a 0)), (1, zz_v x), (2, zz_v y), (3, .ref (a 99))]) rfl ?_
      refine gd_iconst hC dL_about_15 ?_
      exact gd_ireturn hC hr rfl hlk dL_about_16 (by decide) ⟨_, ⟨by decide, by decide⟩, rfl, Or.inr (Or.inl ⟨rfl, hx, rfl⟩)⟩
    · refine gx_catch (name := "java/lang/IllegalArgumentException") hC [⟨0, 10, 13, 21⟩] ⟨0, 10, 17, 13⟩ [] (by rw [hex]; rfl) (fun z hz => by rcases List.mem_singleton.mp hz with rfl; exact Or.inr ⟨by decide, "java/lang/IndexOutOfBoundsException", hts _ (by decide +kernel), hF.2.2.2.2.2.2.2.2.1 _ (by decide) _ (by decide) (by decide)⟩) rfl (by decide) (hts _ (by decide +kernel)) (va_Nw.use (A := args) rfl (hF.2.2.2.2.2.2.2.1 _ (by decide))) (fun q9 => ?_)
      refine gd_astore hC dL_about_17 (by decide) (lv' := [(4, .ref q9), (0, .ref (a 0)), (1, zz_v x), (2, zz_v y), (3, .ref (a 99))]) rfl ?_
      refine gd_iconst hC dL_about_19 ?_
      exact gd_ireturn hC hr rfl hlk dL_about_20 (by decide) ⟨_, ⟨by decide, by decide⟩, rfl, Or.inr (Or.inr (Or.inl ⟨rfl, hx, rfl⟩))⟩
    · exact hx.elim
  · skip
    refine gd_i2l hC qr dL_about_8 ?_
    refine gd_last hC hK (j := 0) rfl (by decide) rfl (by decide) (by decide) qr dL_about_9 ?_
    refine gd_goto hC dL_about_10 (tgt := 21) (by decide) ?_
    refine gd_iconst hC dL_about_21 ?_
    exact gd_ireturn hC hr rfl hlk dL_about_22 (by decide) ⟨_, ⟨by decide, by decide⟩, rfl, Or.inl ⟨rfl, q, qr, rfl⟩⟩

abbrev rm_L_reminder : Room := { frames := 8, cells := 1, slots := 6, locals := 125 }
set_option maxHeartbeats 4000000 in
set_option maxRecDepth 100000 in
theorem c_L_reminder (l : Launch) (hl9 : l.stackTraces = false) (N0 : Nat) (G : zz_G) (Y : zz_Y) (a : Nat → Nat) (S : zz_S) (x : Int) (hx : zz_R x) (hI : zz_IC S) : CtL l yL_reminder wsL_reminder rm_L_reminder 1 [.ref (a 0), zz_v x, .ref (a 99)] N0 G Y a S (zz_u (S) 99 0 (if S (61 + x.toNat) 4 = 1 then zz_cb S ((S 0 10 - S (61 + x.toNat) 5) / 10).toNat (S (13 + (S (61 + x.toNat) 0).toNat) 0) else -1)) (if S (61 + x.toNat) 4 = 1 then zz_cb S ((S 0 10 - S (61 + x.toNat) 5) / 10).toNat (S (13 + (S (61 + x.toNat) 0).toNat) 0) else -1) ((0 ≤ x ∧ x < S 0 9)) (¬ (0 ≤ x ∧ x < S 0 9)) (False) (False) 1 0 0 := by
  refine Ct_.ofH (cc := cL_reminder) (maxL := 4) (ret := (some .int)) (hh := [(0, 9, 12, 21)]) (by decide) rfl (Nat.le_of_ble_eq_true rfl) ?_
  intro p e s m args below meth c hC hts hr hlk hex hF
  have hK := hF.2.1
  refine gd_lveq (lv' := [(0, .ref (a 0)), (1, zz_v x), (2, .ref (a 99))]) rfl ?_
  refine gd_aload_n hC dL_reminder_0 rfl (j := 2) rfl ?_
  refine gd_iconst hC dL_reminder_1 ?_
  refine gd_aload_n hC dL_reminder_2 rfl (j := 0) rfl ?_
  refine gd_iload_n hC dL_reminder_3 rfl (j := 1) rfl ?_
  refine gd_callVR (As := [zz_v x]) (rest := [zz_v 0, .ref (a 99)]) hC hF (fun hR => c_X3_reminder l hl9 N0 G Y a S x hx hI) (cwV 1 hts gL_reminder_X3_reminder rfl rfl rfl (by decide +kernel) ⟨by decide, by decide⟩) rfl (by decide) (ci := 3) rfl rfl rfl rfl (Nat.le_of_ble_eq_true rfl) dL_reminder_4 ⟨by decide, by decide⟩ (fun E hx => ?_) (fun q qr => ?_)
  · rcases hx with ⟨rfl, hx⟩ | ⟨rfl, hx⟩ | ⟨rfl, hx⟩
    · refine gx_catch (name := "java/lang/IndexOutOfBoundsException") hC [] ⟨0, 9, 12, 21⟩ [] (by rw [hex]; rfl) (fun z hz => nomatch hz) rfl (by decide) (hts _ (by decide +kernel)) (va_Nw.use (A := args) rfl (hF.2.2.2.2.2.2.2.1 _ (by decide))) (fun q9 => ?_)
      refine gd_astore_n hC dL_reminder_12 rfl (by decide) (lv' := [(3, .ref q9), (0, .ref (a 0)), (1, zz_v x), (2, .ref (a 99))]) rfl ?_
      refine gd_iconst hC dL_reminder_13 ?_
      exact gd_ireturn hC hr rfl hlk dL_reminder_14 (by decide) ⟨_, ⟨by decide, by decide⟩, rfl, Or.inr (Or.inl ⟨rfl, hx, rfl⟩)⟩
    · exact hx.elim
    · exact hx.elim
  · skip
    refine gd_i2l hC qr dL_reminder_7 ?_
    refine gd_last hC hK (j := 0) rfl (by decide) rfl (by decide) (by decide) qr dL_reminder_8 ?_
    refine gd_goto hC dL_reminder_9 (tgt := 15) (by decide) ?_
    refine gd_iconst hC dL_reminder_15 ?_
    exact gd_ireturn hC hr rfl hlk dL_reminder_16 (by decide) ⟨_, ⟨by decide, by decide⟩, rfl, Or.inl ⟨rfl, q, qr, rfl⟩⟩

abbrev rm_L_fault : Room := { frames := 8, cells := 1, slots := 6, locals := 124 }
set_option maxHeartbeats 4000000 in
set_option maxRecDepth 100000 in
theorem c_L_fault (l : Launch) (hl9 : l.stackTraces = false) (N0 : Nat) (G : zz_G) (Y : zz_Y) (a : Nat → Nat) (S : zz_S) (x : Int) (hx : zz_R x) (hI : zz_IC S) : CtL l yL_fault wsL_fault rm_L_fault 1 [.ref (a 0), zz_v x, .ref (a 99)] N0 G Y a S (zz_u (S) 99 0 (zz_ft S x.toNat)) (zz_ft S x.toNat) ((0 ≤ x ∧ x < S 0 7)) (¬ (0 ≤ x ∧ x < S 0 7)) (False) (False) 1 0 0 := by
  refine Ct_.ofH (cc := cL_fault) (maxL := 4) (ret := (some .int)) (hh := [(0, 9, 12, 21)]) (by decide) rfl (Nat.le_of_ble_eq_true rfl) ?_
  intro p e s m args below meth c hC hts hr hlk hex hF
  have hK := hF.2.1
  refine gd_lveq (lv' := [(0, .ref (a 0)), (1, zz_v x), (2, .ref (a 99))]) rfl ?_
  refine gd_aload_n hC dL_fault_0 rfl (j := 2) rfl ?_
  refine gd_iconst hC dL_fault_1 ?_
  refine gd_aload_n hC dL_fault_2 rfl (j := 0) rfl ?_
  refine gd_iload_n hC dL_fault_3 rfl (j := 1) rfl ?_
  refine gd_callVR (As := [zz_v x]) (rest := [zz_v 0, .ref (a 99)]) hC hF (fun hR => c_X3_fault l hl9 N0 G Y a S x hx hI) (cwV 1 hts gL_fault_X3_fault rfl rfl rfl (by decide +kernel) ⟨by decide, by decide⟩) rfl (by decide) (ci := 3) rfl rfl rfl rfl (Nat.le_of_ble_eq_true rfl) dL_fault_4 ⟨by decide, by decide⟩ (fun E hx => ?_) (fun q qr => ?_)
  · rcases hx with ⟨rfl, hx⟩ | ⟨rfl, hx⟩ | ⟨rfl, hx⟩
    · refine gx_catch (name := "java/lang/IndexOutOfBoundsException") hC [] ⟨0, 9, 12, 21⟩ [] (by rw [hex]; rfl) (fun z hz => nomatch hz) rfl (by decide) (hts _ (by decide +kernel)) (va_Nw.use (A := args) rfl (hF.2.2.2.2.2.2.2.1 _ (by decide))) (fun q9 => ?_)
      refine gd_astore_n hC dL_fault_12 rfl (by decide) (lv' := [(3, .ref q9), (0, .ref (a 0)), (1, zz_v x), (2, .ref (a 99))]) rfl ?_
      refine gd_iconst hC dL_fault_13 ?_
      exact gd_ireturn hC hr rfl hlk dL_fault_14 (by decide) ⟨_, ⟨by decide, by decide⟩, rfl, Or.inr (Or.inl ⟨rfl, hx, rfl⟩)⟩
    · exact hx.elim
    · exact hx.elim
  · skip
    refine gd_i2l hC qr dL_fault_7 ?_
    refine gd_last hC hK (j := 0) rfl (by decide) rfl (by decide) (by decide) qr dL_fault_8 ?_
    refine gd_goto hC dL_fault_9 (tgt := 15) (by decide) ?_
    refine gd_iconst hC dL_fault_15 ?_
    exact gd_ireturn hC hr rfl hlk dL_fault_16 (by decide) ⟨_, ⟨by decide, by decide⟩, rfl, Or.inl ⟨rfl, q, qr, rfl⟩⟩

abbrev rm_L_likes : Room := { frames := 8, cells := 1, slots := 6, locals := 124 }
set_option maxHeartbeats 4000000 in
set_option maxRecDepth 100000 in
theorem c_L_likes (l : Launch) (hl9 : l.stackTraces = false) (N0 : Nat) (G : zz_G) (Y : zz_Y) (a : Nat → Nat) (S : zz_S) (x : Int) (hx : zz_R x) (hI : zz_IC S) : CtL l yL_likes wsL_likes rm_L_likes 1 [.ref (a 0), zz_v x, .ref (a 99)] N0 G Y a S (zz_u (S) 99 0 (zz_ln S x.toNat (S 0 7).toNat)) (zz_ln S x.toNat (S 0 7).toNat) ((0 ≤ x ∧ x < S 0 7)) (¬ (0 ≤ x ∧ x < S 0 7)) (False) (False) 1 0 0 := by
  refine Ct_.ofH (cc := cL_likes) (maxL := 4) (ret := (some .int)) (hh := [(0, 9, 12, 21)]) (by decide) rfl (Nat.le_of_ble_eq_true rfl) ?_
  intro p e s m args below meth c hC hts hr hlk hex hF
  have hK := hF.2.1
  refine gd_lveq (lv' := [(0, .ref (a 0)), (1, zz_v x), (2, .ref (a 99))]) rfl ?_
  refine gd_aload_n hC dL_likes_0 rfl (j := 2) rfl ?_
  refine gd_iconst hC dL_likes_1 ?_
  refine gd_aload_n hC dL_likes_2 rfl (j := 0) rfl ?_
  refine gd_iload_n hC dL_likes_3 rfl (j := 1) rfl ?_
  refine gd_callVR (As := [zz_v x]) (rest := [zz_v 0, .ref (a 99)]) hC hF (fun hR => c_X3_likes l hl9 N0 G Y a S x hx hI) (cwV 1 hts gL_likes_X3_likes rfl rfl rfl (by decide +kernel) ⟨by decide, by decide⟩) rfl (by decide) (ci := 3) rfl rfl rfl rfl (Nat.le_of_ble_eq_true rfl) dL_likes_4 ⟨by decide, by decide⟩ (fun E hx => ?_) (fun q qr => ?_)
  · rcases hx with ⟨rfl, hx⟩ | ⟨rfl, hx⟩ | ⟨rfl, hx⟩
    · refine gx_catch (name := "java/lang/IndexOutOfBoundsException") hC [] ⟨0, 9, 12, 21⟩ [] (by rw [hex]; rfl) (fun z hz => nomatch hz) rfl (by decide) (hts _ (by decide +kernel)) (va_Nw.use (A := args) rfl (hF.2.2.2.2.2.2.2.1 _ (by decide))) (fun q9 => ?_)
      refine gd_astore_n hC dL_likes_12 rfl (by decide) (lv' := [(3, .ref q9), (0, .ref (a 0)), (1, zz_v x), (2, .ref (a 99))]) rfl ?_
      refine gd_iconst hC dL_likes_13 ?_
      exact gd_ireturn hC hr rfl hlk dL_likes_14 (by decide) ⟨_, ⟨by decide, by decide⟩, rfl, Or.inr (Or.inl ⟨rfl, hx, rfl⟩)⟩
    · exact hx.elim
    · exact hx.elim
  · skip
    refine gd_i2l hC qr dL_likes_7 ?_
    refine gd_last hC hK (j := 0) rfl (by decide) rfl (by decide) (by decide) qr dL_likes_8 ?_
    refine gd_goto hC dL_likes_9 (tgt := 15) (by decide) ?_
    refine gd_iconst hC dL_likes_15 ?_
    exact gd_ireturn hC hr rfl hlk dL_likes_16 (by decide) ⟨_, ⟨by decide, by decide⟩, rfl, Or.inl ⟨rfl, q, qr, rfl⟩⟩

abbrev rm_L_remedied : Room := { frames := 8, cells := 1, slots := 6, locals := 124 }
set_option maxHeartbeats 4000000 in
set_option maxRecDepth 100000 in
theorem c_L_remedied (l : Launch) (hl9 : l.stackTraces = false) (N0 : Nat) (G : zz_G) (Y : zz_Y) (a : Nat → Nat) (S : zz_S) (x : Int) (hx : zz_R x) (hI : zz_IC S) : CtL l yL_remedied wsL_remedied rm_L_remedied 1 [.ref (a 0), zz_v x, .ref (a 99)] N0 G Y a S (zz_u (S) 99 0 (S (13 + x.toNat) 7)) (S (13 + x.toNat) 7) ((0 ≤ x ∧ x < S 0 7)) (¬ (0 ≤ x ∧ x < S 0 7)) (False) (False) 1 0 0 := by
  refine Ct_.ofH (cc := cL_remedied) (maxL := 4) (ret := (some .int)) (hh := [(0, 9, 12, 21)]) (by decide) rfl (Nat.le_of_ble_eq_true rfl) ?_
  intro p e s m args below meth c hC hts hr hlk hex hF
  have hK := hF.2.1
  refine gd_lveq (lv' := [(0, .ref (a 0)), (1, zz_v x), (2, .ref (a 99))]) rfl ?_
  refine gd_aload_n hC dL_remedied_0 rfl (j := 2) rfl ?_
  refine gd_iconst hC dL_remedied_1 ?_
  refine gd_aload_n hC dL_remedied_2 rfl (j := 0) rfl ?_
  refine gd_iload_n hC dL_remedied_3 rfl (j := 1) rfl ?_
  refine gd_callVR (As := [zz_v x]) (rest := [zz_v 0, .ref (a 99)]) hC hF (fun hR => c_X3_remedied l hl9 N0 G Y a S x hx hI) (cwV 1 hts gL_remedied_X3_remedied rfl rfl rfl (by decide +kernel) ⟨by decide, by decide⟩) rfl (by decide) (ci := 3) rfl rfl rfl rfl (Nat.le_of_ble_eq_true rfl) dL_remedied_4 ⟨by decide, by decide⟩ (fun E hx => ?_) (fun q qr => ?_)
  · rcases hx with ⟨rfl, hx⟩ | ⟨rfl, hx⟩ | ⟨rfl, hx⟩
    · refine gx_catch (name := "java/lang/IndexOutOfBoundsException") hC [] ⟨0, 9, 12, 21⟩ [] (by rw [hex]; rfl) (fun z hz => nomatch hz) rfl (by decide) (hts _ (by decide +kernel)) (va_Nw.use (A := args) rfl (hF.2.2.2.2.2.2.2.1 _ (by decide))) (fun q9 => ?_)
      refine gd_astore_n hC dL_remedied_12 rfl (by decide) (lv' := [(3, .ref q9), (0, .ref (a 0)), (1, zz_v x), (2, .ref (a 99))]) rfl ?_
      refine gd_iconst hC dL_remedied_13 ?_
      exact gd_ireturn hC hr rfl hlk dL_remedied_14 (by decide) ⟨_, ⟨by decide, by decide⟩, rfl, Or.inr (Or.inl ⟨rfl, hx, rfl⟩)⟩
    · exact hx.elim
    · exact hx.elim
  · skip
    refine gd_i2l hC qr dL_remedied_7 ?_
    refine gd_last hC hK (j := 0) rfl (by decide) rfl (by decide) (by decide) qr dL_remedied_8 ?_
    refine gd_goto hC dL_remedied_9 (tgt := 15) (by decide) ?_
    refine gd_iconst hC dL_remedied_15 ?_
    exact gd_ireturn hC hr rfl hlk dL_remedied_16 (by decide) ⟨_, ⟨by decide, by decide⟩, rfl, Or.inl ⟨rfl, q, qr, rfl⟩⟩

abbrev rm_L_gains : Room := { frames := 8, cells := 2, slots := 12, locals := 130 }
set_option maxHeartbeats 4000000 in
set_option maxRecDepth 100000 in
theorem c_L_gains (l : Launch) (hl9 : l.stackTraces = false) (N0 : Nat) (G : zz_G) (Y : zz_Y) (a : Nat → Nat) (S : zz_S) (x y : Int) (hx : zz_R x) (hy : zz_R y) (hI : zz_IC S) : CtL l yL_gains wsL_gains rm_L_gains 2 [.ref (a 0), zz_v x, zz_v y, .ref (a 99)] N0 G Y a S (zz_u (S) 99 0 (zz_gn S x y (S 0 7).toNat)) (zz_gn S x y (S 0 7).toNat) ((0 ≤ x ∧ x < 4) ∧ (0 ≤ y ∧ y ≤ 100)) (¬ (0 ≤ x ∧ x < 4)) ((0 ≤ x ∧ x < 4) ∧ ¬ (0 ≤ y ∧ y ≤ 100)) (False) 1 2 0 := by
  refine Ct_.ofH (cc := cL_gains) (maxL := 5) (ret := (some .int)) (hh := [(0, 10, 13, 21), (0, 10, 17, 13)]) (by decide) rfl (Nat.le_of_ble_eq_true rfl) ?_
  intro p e s m args below meth c hC hts hr hlk hex hF
  have hK := hF.2.1
  refine gd_lveq (lv' := [(0, .ref (a 0)), (1, zz_v x), (2, zz_v y), (3, .ref (a 99))]) rfl ?_
  refine gd_aload_n hC dL_gains_0 rfl (j := 3) rfl ?_
  refine gd_iconst hC dL_gains_1 ?_
  refine gd_aload_n hC dL_gains_2 rfl (j := 0) rfl ?_
  refine gd_iload_n hC dL_gains_3 rfl (j := 1) rfl ?_
  refine gd_iload_n hC dL_gains_4 rfl (j := 2) rfl ?_
  refine gd_callVR (As := [zz_v x, zz_v y]) (rest := [zz_v 0, .ref (a 99)]) hC hF (fun hR => c_X3_gains l hl9 N0 G Y a S x y hx hy hI) (cwV 2 hts gL_gains_X3_gains rfl rfl rfl (by decide +kernel) ⟨by decide, by decide⟩) rfl (by decide) (ci := 3) rfl rfl rfl rfl (Nat.le_of_ble_eq_true rfl) dL_gains_5 ⟨by decide, by decide⟩ (fun E hx => ?_) (fun q qr => ?_)
  · rcases hx with ⟨rfl, hx⟩ | ⟨rfl, hx⟩ | ⟨rfl, hx⟩
    · refine gx_catch (name := "java/lang/IndexOutOfBoundsException") hC [] ⟨0, 10, 13, 21⟩ [⟨0, 10, 17, 13⟩] (by rw [hex]; rfl) (fun z hz => nomatch hz) rfl (by decide) (hts _ (by decide +kernel)) (va_Nw.use (A := args) rfl (hF.2.2.2.2.2.2.2.1 _ (by decide))) (fun q9 => ?_)
      refine gd_astore hC dL_gains_13 (by decide) (lv' := [(4, .ref q9), (0, .ref (a 0)), (1, zz_v x), (2, zz_v y), (3, .ref (a 99))]) rfl ?_
      refine gd_iconst hC dL_gains_15 ?_
      exact gd_ireturn hC hr rfl hlk dL_gains_16 (by decide) ⟨_, ⟨by decide, by decide⟩, rfl, Or.inr (Or.inl ⟨rfl, hx, rfl⟩)⟩
    · refine gx_catch (name := "java/lang/IllegalArgumentException") hC [⟨0, 10, 13, 21⟩] ⟨0, 10, 17, 13⟩ [] (by rw [hex]; rfl) (fun z hz => by rcases List.mem_singleton.mp hz with rfl; exact Or.inr ⟨by decide, "java/lang/IndexOutOfBoundsException", hts _ (by decide +kernel), hF.2.2.2.2.2.2.2.2.1 _ (by decide) _ (by decide) (by decide)⟩) rfl (by decide) (hts _ (by decide +kernel)) (va_Nw.use (A := args) rfl (hF.2.2.2.2.2.2.2.1 _ (by decide))) (fun q9 => ?_)
      refine gd_astore hC dL_gains_17 (by decide) (lv' := [(4, .ref q9), (0, .ref (a 0)), (1, zz_v x), (2, zz_v y), (3, .ref (a 99))]) rfl ?_
      refine gd_iconst hC dL_gains_19 ?_
      exact gd_ireturn hC hr rfl hlk dL_gains_20 (by decide) ⟨_, ⟨by decide, by decide⟩, rfl, Or.inr (Or.inr (Or.inl ⟨rfl, hx, rfl⟩))⟩
    · exact hx.elim
  · skip
    refine gd_i2l hC qr dL_gains_8 ?_
    refine gd_last hC hK (j := 0) rfl (by decide) rfl (by decide) (by decide) qr dL_gains_9 ?_
    refine gd_goto hC dL_gains_10 (tgt := 21) (by decide) ?_
    refine gd_iconst hC dL_gains_21 ?_
    exact gd_ireturn hC hr rfl hlk dL_gains_22 (by decide) ⟨_, ⟨by decide, by decide⟩, rfl, Or.inl ⟨rfl, q, qr, rfl⟩⟩
