/-! THE CLAIM OUT OF ONE WALK OF THE LAW'S BODY. Your part is whole_start (and what it stands on); all else here is the same for every law, but numbers. -/
def R_law : String := "GrievancehallLaw"
def lw_P (b : Addr) (xs : List Int32) (args : Array Value) (s : State) : Prop := args = #[.ref b] ∧ s.IntsAt b xs ∧ xs.length ≤ 260 ∧ (Jvm.Cond.and given_1 narrow_1).before args s = true
def lw_Q (_ : Array Value) (s : State) (o : Outcome) (t : State) : Prop := o = .returned (some (.int 1)) ∧ Framed s o t [] 600130 7301080
def lw_Z (below : List Frame) (a : Array Value) (s : State) : State → Prop := fun t => ∃ o, t.status = .running ∧ Ended t below o ∧ lw_Q a s o t
/-- the law's own end, with 1 on the stack, nothing written that was there before, its room as the claim has it -/
theorem lw_ret {p : Program} {l : Launch} {e : Env} {s : State} {m : MethodId} {below : List Frame} {meth : Method} {c : Code} {b : Nat} (hx : p.tables.exec = Jvm.exec) (hb : c.code = code) (hr : meth.sig.returnType = ret) (hlocks : meth.locks = false) {pc : Nat} {H : Heap} {ls : Array Slot} (hdg : decode code pc = .ok (.ireturn, 1)) : W p l e room_1 s m #[Value.ref b] below meth c H [] 600130 7301080 (lw_Z below #[Value.ref b] s) (F0 m pc ls [.int 1]) := by
  intro T hT X
  obtain ⟨fs, hret, hrun, hended, hW, hframe⟩ := X.leave (v := some (.int 1)) (hlocks := hlocks) (fun h => by rw [hr] at h; cases h)
  have hmeth' : T.vm.method? m = some meth := X.method'
  refine ⟨T.setFrames fs, ?_, .returned (some (.int 1)), hrun, hended, rfl, ⟨_, rfl⟩, hW, hframe⟩
  jvm_step X.here [X.here.top, hx, hb, hdg, hmeth', hr, ret, narrow_b1]
  (try refine ⟨rfl, ?_⟩); (try refine ⟨rfl, ?_⟩)
  first | (intro acts; rw [hret _ acts rfl rfl rfl]) | rw [hret _ _ rfl rfl rfl]
  exact Steps.refl _
/-- what holds at the law's entry: the machine, the code, the tables' words (any of lw_tbl by 'hts w (by decide +kernel)'), the script of L ints xs at the cell b, what the Statement gives of the start (any of its parts by flat_of_before) -/
def lw_At (p : Program) (s : State) (m : MethodId) (meth : Method) (c : Code) (b L : Nat) (xs : Nat → Int32) : Prop :=
  p.tables.exec = Jvm.exec ∧ c.code = code ∧ meth.sig.returnType = ret ∧ c.maxLocals = 9 ∧ s.vm.findClass R_law = some m.cls ∧ (∀ w ∈ lw_tbl, w.before #[Value.ref b] s = true) ∧ va_X b L xs s s.heap ∧ b < s.heap.size ∧ meth.locks = false ∧ (Jvm.Cond.and given_1 narrow_1).before #[Value.ref b] s = true

section ZLL
variable {p : Program} {l : Launch} {e : Env} {R : Room} {s : State} {m : MethodId} {args : Array Value} {below : List Frame} {meth : Method} {c : Code} {Q : State → Prop} {N0 : Nat} {G : zz_G} {a : Nat → Nat} {nL k : Nat} {nA : List Nat} {U : zy_U} {T V : zz_S} {Y : zz_Y} {ad : Nat} {index : Nat} {rest : List Value} {pc : Nat} {lv : List (Nat × Value)} {st : List Value} {cc : ByteArray} {own : String}

theorem zy_q1 (G : zz_G) (a : Nat → Nat) (ad : Nat) (T2 V : zz_S) : (zy_t G a [ad] T2 V).2.2[77]? = some (ad, .inl ((zy_t G a [ad] T2 V).2.1 0, 4, .inl (fun x => Int32.ofInt (V 0 x)))) := by
  show (zy_h2 G a T2 ++ zy_ar G a [ad] V)[77]? = _
  rw [List.getElem?_append_right (by rw [zy_l2]; exact Nat.le_refl _), zy_l2]
  rfl
theorem zy_q2 (G : zz_G) (a : Nat → Nat) (ad : Nat) (T V : zz_S) : (zy_s G a [ad] T V).2.2[77]? = some (ad, .inl ((zy_s G a [ad] T V).2.1 0, 4, .inl (fun x => Int32.ofInt (V 0 x)))) := by
  show (zy_h1 G a T ++ zy_ar G a [ad] V)[77]? = _
  rw [List.getElem?_append_right (by rw [zy_l1]; exact Nat.le_refl _), zy_l1]
  rfl
theorem ge_all1 (hl9 : l.stackTraces = false) (hC : zz_C p c cc nL s m own) (hF : zz_F s N0 G Y) (hI : zz_IC T) (hV : zi_V T V) (cw : CallB R s args own index yL_all cL_all 6 (some .long) wsL_all rm_L_all 480 2880 2 ∧ (Cond.static yL_all).before args s = true) (hst : st = [.ref ad, .ref (a 0)] ++ rest) (hW : (rest.map fun v => v.category).sum ≤ 8) (hdg : decode cc pc = .ok (.invokestatic index, 3)) (hf : k + 480 ≤ R.cells ∧ 6 * (k + 480) ≤ R.slots)
    (kk : Ge_ p l e R s m args below meth c Q N0 G a [ad] nL (k + 480) (T, T, V) (pc + 3) (lv) (zz_l (zy_all T) :: rest)) : Ge_ p l e R s m args below meth c Q N0 G a [ad] nL (k) (T, T, V) (pc) (lv) (st) :=
  ge_callS (K := 480) (As := [.ref (a 0), .ref ad]) hC hF (fun hR => Cy_.of1 hR (c_L_all l hl9 N0 _ Y a _ 77 ad (V 0) (zy_q1 G a ad T V) hV hI) (fun _ _ h => h)) cw rfl hst hW hdg hf (fun v U' hv => by
    obtain ⟨T', hU, hv1, hT⟩ := hv
    rw [hU, hv1, hT]
    exact kk)
theorem ge_all2 (hl9 : l.stackTraces = false) (hC : zz_C p c cc nL s m own) (hF : zz_F s N0 G Y) (hI : zz_IC T) (hV : zi_V T V) (cw : CallB R s args own index yL_all cL_all 6 (some .long) wsL_all rm_L_all 480 2880 2 ∧ (Cond.static yL_all).before args s = true) (hst : st = [.ref ad, .ref (a 77)] ++ rest) (hW : (rest.map fun v => v.category).sum ≤ 8) (hdg : decode cc pc = .ok (.invokestatic index, 3)) (hf : k + 480 ≤ R.cells ∧ 6 * (k + 480) ≤ R.slots)
    (kk : Ge_ p l e R s m args below meth c Q N0 G a [ad] nL (k + 480) (T, T, V) (pc + 3) (lv) (zz_l (zy_all T) :: rest)) : Ge_ p l e R s m args below meth c Q N0 G a [ad] nL (k) (T, T, V) (pc) (lv) (st) :=
  ge_callS (K := 480) (As := [.ref (a 77), .ref ad]) hC hF (fun hR => Cy_.of2 hR (c_L_all l hl9 N0 _ Y (fun q => a (77 + q)) _ 77 ad (V 0) (zy_q2 G a ad T V) hV hI) (fun _ _ h => h)) cw rfl hst hW hdg hf (fun v U' hv => by
    obtain ⟨T', hU, hv1, hT⟩ := hv
    rw [hU, hv1, hT]
    exact kk)
theorem ge_refused (hl9 : l.stackTraces = false) (hC : zz_C p c cc nL s m own) (hF : zz_F s N0 G Y) (hI : zz_IC T) (hV : zi_V T V) (hdc : T 3 3 < 512) (hlc : T 7 3 < 512) (cw : CallB R s args own index yL_refused cL_refused 5 (some .boolean) wsL_refused rm_L_refused 1100 6600 2 ∧ (Cond.static yL_refused).before args s = true) (hst : st = [.ref ad, .ref (a 0)] ++ rest) (hW : (rest.map fun v => v.category).sum ≤ 8) (hdg : decode cc pc = .ok (.invokestatic index, 3)) (hf : k + 1100 ≤ R.cells ∧ 6 * (k + 1100) ≤ R.slots)
    (kk : Ge_ p l e R s m args below meth c Q N0 G a [ad] nL (k + 1100) (T, T, V) (pc + 3) (lv) (zz_v 1 :: rest)) : Ge_ p l e R s m args below meth c Q N0 G a [ad] nL (k) (T, T, V) (pc) (lv) (st) :=
  ge_callS (K := 1100) (As := [.ref (a 0), .ref ad]) hC hF (fun hR => Cy_.of1 hR (c_L_refused l hl9 N0 _ Y a _ 77 ad (V 0) (zy_q1 G a ad T V) hV hI hdc hlc) (fun _ _ h => zz_xn h.2)) cw rfl hst hW hdg hf (fun v U' hv => by
    obtain ⟨T', hU, r, hr, hv1, hT, hr1, -⟩ := hv
    rw [hU, hv1, hT, hr1]
    exact kk)
theorem ge_step {y : MethodName} {bytes : ByteArray} {maxL n K m9 : Nat} {ret : Option FieldType} {ws : List Cond} {rm : Room} {As : List Value} (hC : zz_C p c cc nL s m own) (hF : zz_F s N0 G Y) (hM : Cy_ l y ws rm K As N0 G Y a nA U (zl_post m9)) (cw : CallB R s args own index y bytes maxL ret ws rm K (6 * K) n ∧ (Cond.static y).before args s = true) (hn : As.length = n) (hst : st = As.reverse ++ rest) (hW : (rest.map fun v => v.category).sum ≤ 8) (hdg : decode cc pc = .ok (.invokestatic index, 3)) (hf : k + K ≤ R.cells ∧ 6 * (k + K) ≤ R.slots)
    (kk : ∀ T' V' : zz_S, zi_ T' m9 → zi_V T' V' → Ge_ p l e R s m args below meth c Q N0 G a nA nL (k + K) (T', T', V') (pc + 3) (lv) (zz_v 1 :: rest)) : Ge_ p l e R s m args below meth c Q N0 G a nA nL (k) (U) (pc) (lv) (st) :=
  ge_callS (K := K) (As := As) hC hF (fun _ => hM) cw hn hst hW hdg hf (fun v U' hv => by
    obtain ⟨rfl, T', V', rfl, h1, h2⟩ := hv
    exact kk T' V' h1 h2)
theorem ge_cell {b L j : Nat} {xs : Nat → Int32} (hC : zz_C p c cc nL s m own) (hF : zz_F s N0 G Y) (hX : va_X b L xs s s.heap) (hbl : b < s.heap.size) (hN : N0 = s.heap.size) (hj : j < 260) (hL : L ≤ 260) (cw : CallB R s args own index yL_cell cL_cell 3 (some .int) wsL_cell rm_L_cell 0 (6 * 0) 2 ∧ (Cond.static yL_cell).before args s = true) (hst : st = [zz_v (j : Int), .ref b] ++ rest) (hW : (rest.map fun v => v.category).sum ≤ 8) (hdg : decode cc pc = .ok (.invokestatic index, 3)) (hf : k + 0 ≤ R.cells ∧ 6 * (k + 0) ≤ R.slots)
    (kk : ∀ r : Int, zz_R r → Ge_ p l e R s m args below meth c Q N0 G a nA nL (k + 0) (U) (pc + 3) (lv) (zz_v r :: rest)) : Ge_ p l e R s m args below meth c Q N0 G a nA nL (k) (U) (pc) (lv) (st) := by
  have hbN : b < N0 := by rw [hN]; exact hbl
  refine ge_call (rest := rest) (rm := rm_L_cell) (K := 0) (mc := 0) (ms := 0) (av := [.ref b, zz_v (j : Int)]) (post := fun v U' => ∃ r : Int, zz_R r ∧ v = some (zz_v r) ∧ U' = U) rfl (fun hR H locs ls hP hD hS hl => ?_) (fun v U' hv => ?_)
  · have hM : vx_Met l yL_cell wsL_cell rm_L_cell (va_Pc [.ref b, zz_v (j : Int)] (fun u => zy_P N0 G Y a nA U u ∧ va_X b L xs u u.heap)) (zy_Q N0 G a nA (fun v U' => ∃ r : Int, zz_R r ∧ v = some (zz_v r) ∧ U' = U)) zy_X 0 (6 * 0) (zz_A N0) :=
      vx_mono (c_L_cell l N0 (zy_t G a nA U.2.1 U.2.2) Y a U.1 b L j xs hj hL hbN) (fun _ _ h => ⟨h.1, ⟨h.2.1.1, h.2.1.2.1, h.2.1.2.2.1, h.2.1.2.2.2.1, h.2.1.2.2.2.2.1.1, h.2.1.2.2.2.2.2⟩, h.2.2⟩) (fun _ _ _ _ h => by
        obtain ⟨⟨v, T', h1, ⟨r, hr, h2, h2b⟩, h3, h4, h5⟩, h6⟩ := h
        subst h2b
        exact ⟨⟨v, U, h1, ⟨r, hr, h2, rfl⟩, h3, h4, hR⟩, h6⟩) (fun _ _ _ h => by
        obtain ⟨⟨T', h1, -⟩, -⟩ := h
        exact h1)
    exact vx_runS (Ts := []) ⟨hC.1, hC.2.1, hC.2.2.1, hC.2.2.2, fun _ h => nomatch h⟩ hM cw ⟨fun v u g mk h => ⟨h.1, (zy_blind v u g mk ⟨h.1, h.2.1⟩).2, h.2.2.moved (u := u) (U := u.calling g mk v) (Vm.Alike.refl u.vm)⟩, fun u hu hW9 => ⟨rfl, (ge_pre (av := [.ref b, zz_v (j : Int)]) hF.1 hF.2.1 hF.2.2 hR hP hD hS u hu hW9).2, by
      rw [hu]
      exact (hX.kept (hS.2.1 b hbl (Nat.not_le.mpr hbN))).moved hW9.alike⟩⟩ rfl rfl hl.1 hst (lv_room hW) hdg ⟨hf.1, by have h2 := hf.2; omega⟩
  · obtain ⟨r, hr, rfl, rfl⟩ := hv
    exact kk r hr
end ZLL
/-- what holds in every step of the law's loop -/
def zq_ (p : Program) (s : State) (m : MethodId) (meth : Method) (c : Code) (b L : Nat) (xs : Nat → Int32) (G : zz_G) (Y : zz_Y) : Prop :=
  zz_C p c code 9 s m RL ∧ (∀ w ∈ wsL_law, w.before #[Value.ref b] s = true) ∧ va_X b L xs s s.heap ∧ b < s.heap.size ∧ L ≤ 260 ∧ zz_F s s.heap.size G Y ∧ meth.sig.returnType = ret ∧ meth.locks = false
abbrev zg_ (p : Program) (l : Launch) (e : Env) (s : State) (m : MethodId) (b : Nat) (below : List Frame) (meth : Method) (c : Code) (G : zz_G) (a : Nat → Nat) (ad k : Nat) (T V : zz_S) (pc : Nat) (lv : List (Nat × Value)) (st : List Value) : Prop :=
  Ge_ p l e room_1 s m #[Value.ref b] below meth c (lw_Z below #[Value.ref b] s) s.heap.size G a [ad] 9 k (T, T, V) pc lv st
abbrev zv_ (b : Nat) (a : Nat → Nat) (ad j : Nat) : List (Nat × Value) := [(0, .ref b), (1, .ref (a 0)), (2, .ref (a 77)), (3, .ref ad), (4, zz_v 1), (5, zz_v (j : Int))]
set_option maxHeartbeats 4000000 in
set_option maxRecDepth 100000 in
theorem lw_half {p : Program} {e : Env} {s : State} {m : MethodId} {below : List Frame} {meth : Method} {c : Code} {b L : Nat} {xs : Nat → Int32} {G : zz_G} {Y : zz_Y} {a : Nat → Nat} {ad : Nat} (l : Launch) (hl9 : l.stackTraces = false) (Hq : zq_ p s m meth c b L xs G Y) {T V : zz_S} {j : Nat} (hj : j < 120) (hI : zi_ T (2 * (j + 1))) (hV : zi_V T V) (kk : zg_ p l e s m b below meth c G a ad (2500 + 2400 * (j + 1)) T V 30 (zv_ b a ad (j + 1)) []) : zg_ p l e s m b below meth c G a ad (2740 + 2400 * j) T V 174 [(0, .ref b), (1, .ref (a 0)), (2, .ref (a 77)), (3, .ref ad), (5, zz_v (j : Int))] [zz_v 1] := by
  obtain ⟨hC, hts, hX, hbl, hL, hF, hr, hlk⟩ := id Hq
  have hIC : zz_IC T := zi_IC (by omega) hI
  have hK := hF.2.1
  have hdc := hI.2.2.2.1.1
  have hlc := hI.2.2.2.2.1.1
  refine ge_istore hC dL_law_174 (by decide) (lv' := [(4, zz_v 1), (0, .ref b), (1, .ref (a 0)), (2, .ref (a 77)), (3, .ref ad), (5, zz_v (j : Int))]) rfl ?_
  refine ge_iload hC dL_law_176 (j := 0) rfl ?_
  refine ge_if_eq hC dL_law_178 (tgt := 223) (by decide) ⟨by decide, by decide⟩ (fun c1 => (by omega)) (fun c1 => ?_)
  refine ge_iload hC dL_law_181 (j := 5) rfl ?_
  refine ge_bipush hC dL_law_183 rfl ?_
  refine ge_irem hC dL_law_185 ⟨by omega, by omega⟩ ⟨by omega, by omega⟩ ?_
  refine ge_if_gt hC dL_law_186 (tgt := 203) (by decide) ⟨by omega, by omega⟩ (fun c2 => ?_) (fun c2 => ?_)
  · skip
    refine ge_iload hC dL_law_203 (j := 5) rfl ?_
    refine ge_bipush hC dL_law_205 rfl ?_
    refine ge_irem hC dL_law_207 ⟨by omega, by omega⟩ ⟨by omega, by omega⟩ ?_
    refine ge_if_gt hC dL_law_208 (tgt := 219) (by decide) ⟨by omega, by omega⟩ (fun c3 => ?_) (fun c3 => ?_)
    · skip
      refine ge_iconst hC dL_law_219 ?_
      refine ge_goto hC dL_law_220 (tgt := 224) (by decide) ?_
      refine ge_istore hC dL_law_224 (by decide) (lv' := [(4, zz_v 1), (0, .ref b), (1, .ref (a 0)), (2, .ref (a 77)), (3, .ref ad), (5, zz_v (j : Int))]) rfl ?_
      refine ge_iinc hC dL_law_226 (j := 5) rfl (y := ((j + 1 : Nat) : Int)) (by omega) (by decide) (lv' := [(5, zz_v ((j + 1 : Nat) : Int)), (4, zz_v 1), (0, .ref b), (1, .ref (a 0)), (2, .ref (a 77)), (3, .ref ad)]) rfl ?_
      refine ge_goto hC dL_law_229 (tgt := 30) (by decide) ?_
      refine ge_sub [2, 3, 4, 5, 1, 0] (lv' := [(0, .ref b), (1, .ref (a 0)), (2, .ref (a 77)), (3, .ref ad), (4, zz_v 1), (5, zz_v ((j + 1 : Nat) : Int))]) rfl ?_
      exact ge_wide (by omega) kk
    · skip
      refine ge_aload_n hC dL_law_211 rfl (j := 2) rfl ?_
      refine ge_aload_n hC dL_law_212 rfl (j := 4) rfl ?_
      refine ge_refused (rest := []) hl9 hC hF hIC hV (by omega) (by omega) (va_cwS 2 hts gL_law_L_refused rfl rfl rfl (by decide +kernel) ⟨by decide, by decide⟩) rfl (Nat.le_of_ble_eq_true rfl) dL_law_213 ⟨show _ ≤ 600130 by omega, show _ ≤ 7301080 by omega⟩ ?_
      refine ge_if_eq hC dL_law_216 (tgt := 223) (by decide) ⟨by decide, by decide⟩ (fun c4 => (by omega)) (fun c4 => ?_)
      refine ge_iconst hC dL_law_219 ?_
      refine ge_goto hC dL_law_220 (tgt := 224) (by decide) ?_
      refine ge_istore hC dL_law_224 (by decide) (lv' := [(4, zz_v 1), (0, .ref b), (1, .ref (a 0)), (2, .ref (a 77)), (3, .ref ad), (5, zz_v (j : Int))]) rfl ?_
      refine ge_iinc hC dL_law_226 (j := 5) rfl (y := ((j + 1 : Nat) : Int)) (by omega) (by decide) (lv' := [(5, zz_v ((j + 1 : Nat) : Int)), (4, zz_v 1), (0, .ref b), (1, .ref (a 0)), (2, .ref (a 77)), (3, .ref ad)]) rfl ?_
      refine ge_goto hC dL_law_229 (tgt := 30) (by decide) ?_
      refine ge_sub [2, 3, 4, 5, 1, 0] (lv' := [(0, .ref b), (1, .ref (a 0)), (2, .ref (a 77)), (3, .ref ad), (4, zz_v 1), (5, zz_v ((j + 1 : Nat) : Int))]) rfl ?_
      exact ge_wide (by omega) kk
  · skip
    refine ge_aload_n hC dL_law_189 rfl (j := 2) rfl ?_
    refine ge_aload_n hC dL_law_190 rfl (j := 4) rfl ?_
    refine ge_all1 (rest := []) hl9 hC hF hIC hV (va_cwS 2 hts gL_law_L_all rfl rfl rfl (by decide +kernel) ⟨by decide, by decide⟩) rfl (Nat.le_of_ble_eq_true rfl) dL_law_191 ⟨show _ ≤ 600130 by omega, show _ ≤ 7301080 by omega⟩ ?_
    refine ge_aload_n hC dL_law_194 rfl (j := 3) rfl ?_
    refine ge_aload_n hC dL_law_195 rfl (j := 4) rfl ?_
    refine ge_all2 (rest := [zz_l (zy_all T)]) hl9 hC hF hIC hV (va_cwS 2 hts gL_law_L_all rfl rfl rfl (by decide +kernel) ⟨by decide, by decide⟩) rfl (Nat.le_of_ble_eq_true rfl) dL_law_196 ⟨show _ ≤ 600130 by omega, show _ ≤ 7301080 by omega⟩ ?_
    refine ge_lcmpS hC dL_law_199 ?_
    refine ge_if_ne hC dL_law_200 (tgt := 223) (by decide) ⟨by decide, by decide⟩ (fun c5 => (by omega)) (fun c5 => ?_)
    refine ge_iload hC dL_law_203 (j := 5) rfl ?_
    refine ge_bipush hC dL_law_205 rfl ?_
    refine ge_irem hC dL_law_207 ⟨by omega, by omega⟩ ⟨by omega, by omega⟩ ?_
    refine ge_if_gt hC dL_law_208 (tgt := 219) (by decide) ⟨by omega, by omega⟩ (fun c6 => ?_) (fun c6 => ?_)
    · skip
      refine ge_iconst hC dL_law_219 ?_
      refine ge_goto hC dL_law_220 (tgt := 224) (by decide) ?_
      refine ge_istore hC dL_law_224 (by decide) (lv' := [(4, zz_v 1), (0, .ref b), (1, .ref (a 0)), (2, .ref (a 77)), (3, .ref ad), (5, zz_v (j : Int))]) rfl ?_
      refine ge_iinc hC dL_law_226 (j := 5) rfl (y := ((j + 1 : Nat) : Int)) (by omega) (by decide) (lv' := [(5, zz_v ((j + 1 : Nat) : Int)), (4, zz_v 1), (0, .ref b), (1, .ref (a 0)), (2, .ref (a 77)), (3, .ref ad)]) rfl ?_
      refine ge_goto hC dL_law_229 (tgt := 30) (by decide) ?_
      refine ge_sub [2, 3, 4, 5, 1, 0] (lv' := [(0, .ref b), (1, .ref (a 0)), (2, .ref (a 77)), (3, .ref ad), (4, zz_v 1), (5, zz_v ((j + 1 : Nat) : Int))]) rfl ?_
      exact ge_wide (by omega) kk
    · skip
      refine ge_aload_n hC dL_law_211 rfl (j := 2) rfl ?_
      refine ge_aload_n hC dL_law_212 rfl (j := 4) rfl ?_
      refine ge_refused (rest := []) hl9 hC hF hIC hV (by omega) (by omega) (va_cwS 2 hts gL_law_L_refused rfl rfl rfl (by decide +kernel) ⟨by decide, by decide⟩) rfl (Nat.le_of_ble_eq_true rfl) dL_law_213 ⟨show _ ≤ 600130 by omega, show _ ≤ 7301080 by omega⟩ ?_
      refine ge_if_eq hC dL_law_216 (tgt := 223) (by decide) ⟨by decide, by decide⟩ (fun c7 => (by omega)) (fun c7 => ?_)
      refine ge_iconst hC dL_law_219 ?_
      refine ge_goto hC dL_law_220 (tgt := 224) (by decide) ?_
      refine ge_istore hC dL_law_224 (by decide) (lv' := [(4, zz_v 1), (0, .ref b), (1, .ref (a 0)), (2, .ref (a 77)), (3, .ref ad), (5, zz_v (j : Int))]) rfl ?_
      refine ge_iinc hC dL_law_226 (j := 5) rfl (y := ((j + 1 : Nat) : Int)) (by omega) (by decide) (lv' := [(5, zz_v ((j + 1 : Nat) : Int)), (4, zz_v 1), (0, .ref b), (1, .ref (a 0)), (2, .ref (a 77)), (3, .ref ad)]) rfl ?_
      refine ge_goto hC dL_law_229 (tgt := 30) (by decide) ?_
      refine ge_sub [2, 3, 4, 5, 1, 0] (lv' := [(0, .ref b), (1, .ref (a 0)), (2, .ref (a 77)), (3, .ref ad), (4, zz_v 1), (5, zz_v ((j + 1 : Nat) : Int))]) rfl ?_
      exact ge_wide (by omega) kk
set_option maxHeartbeats 4000000 in
set_option maxRecDepth 100000 in
theorem lw_step {p : Program} {e : Env} {s : State} {m : MethodId} {below : List Frame} {meth : Method} {c : Code} {b L : Nat} {xs : Nat → Int32} {G : zz_G} {Y : zz_Y} {a : Nat → Nat} {ad : Nat} (l : Launch) (hl9 : l.stackTraces = false) (Hq : zq_ p s m meth c b L xs G Y) {T V : zz_S} {j : Nat} (hj : j ≤ 120) (hI : zi_ T (2 * j)) (hV : zi_V T V) (kk : j < 120 → ∀ T1 V1 : zz_S, zi_ T1 (2 * (j + 1)) → zi_V T1 V1 → zg_ p l e s m b below meth c G a ad (2500 + 2400 * (j + 1)) T1 V1 30 (zv_ b a ad (j + 1)) []) : zg_ p l e s m b below meth c G a ad (2500 + 2400 * j) T V 30 (zv_ b a ad j) [] := by
  obtain ⟨hC, hts, hX, hbl, hL, hF, hr, hlk⟩ := id Hq
  have hIC : zz_IC T := zi_IC (by omega) hI
  have hK := hF.2.1
  have hdc := hI.2.2.2.1.1
  have hlc := hI.2.2.2.2.1.1
  refine ge_lveq (lv' := [(0, .ref b), (1, .ref (a 0)), (2, .ref (a 77)), (3, .ref ad), (4, zz_v 1), (5, zz_v (j : Int))]) rfl ?_
  refine ge_iload hC dL_law_30 (j := 5) rfl ?_
  refine ge_bipush hC dL_law_32 rfl ?_
  refine ge_icmp_ge hC dL_law_34 (tgt := 232) (by decide) ⟨by omega, by omega⟩ ⟨by decide, by decide⟩ (fun c1 => ?_) (fun c1 => ?_)
  · skip
    refine ge_iload hC dL_law_232 (j := 4) rfl ?_
    refine ge_if_eq hC dL_law_234 (tgt := 255) (by decide) ⟨by decide, by decide⟩ (fun c2 => (by omega)) (fun c2 => ?_)
    refine ge_aload_n hC dL_law_237 rfl (j := 1) rfl ?_
    refine ge_aload_n hC dL_law_238 rfl (j := 3) rfl ?_
    refine ge_all1 (rest := []) hl9 hC hF hIC hV (va_cwS 2 hts gL_law_L_all rfl rfl rfl (by decide +kernel) ⟨by decide, by decide⟩) rfl (Nat.le_of_ble_eq_true rfl) dL_law_239 ⟨show _ ≤ 600130 by omega, show _ ≤ 7301080 by omega⟩ ?_
    refine ge_aload_n hC dL_law_242 rfl (j := 2) rfl ?_
    refine ge_aload_n hC dL_law_243 rfl (j := 3) rfl ?_
    refine ge_all2 (rest := [zz_l (zy_all T)]) hl9 hC hF hIC hV (va_cwS 2 hts gL_law_L_all rfl rfl rfl (by decide +kernel) ⟨by decide, by decide⟩) rfl (Nat.le_of_ble_eq_true rfl) dL_law_244 ⟨show _ ≤ 600130 by omega, show _ ≤ 7301080 by omega⟩ ?_
    refine ge_lcmpS hC dL_law_247 ?_
    refine ge_if_ne hC dL_law_248 (tgt := 255) (by decide) ⟨by decide, by decide⟩ (fun c3 => (by omega)) (fun c3 => ?_)
    refine ge_iconst hC dL_law_251 ?_
    refine ge_goto hC dL_law_252 (tgt := 256) (by decide) ?_
    intro hR H locs ls hP hD hS hl
    refine W.widen (k := 600130) (n := 7301080) (by omega) (by omega) ?_
    refine va_forget hS.2.2 ?_
    exact lw_ret hC.1 hC.2.1 hr hlk dL_law_256
  · skip
    refine ge_iload hC dL_law_37 (j := 4) rfl ?_
    refine ge_if_eq hC dL_law_39 (tgt := 232) (by decide) ⟨by decide, by decide⟩ (fun c4 => (by omega)) (fun c4 => ?_)
    refine ge_aload_n hC dL_law_42 rfl (j := 0) rfl ?_
    refine ge_iconst hC dL_law_43 ?_
    refine ge_iload hC dL_law_44 (j := 5) rfl ?_
    refine ge_imul hC dL_law_46 ?_
    refine ge_top (y := ((2 * j : Nat) : Int)) (by omega) ?_
    refine ge_cell (rest := []) (j := 2 * j) hC hF hX hbl rfl (by omega) hL (va_cwS 2 hts gL_law_L_cell rfl rfl rfl (by decide +kernel) ⟨by decide, by decide⟩) rfl (Nat.le_of_ble_eq_true rfl) dL_law_47 ⟨show _ ≤ 600130 by omega, show _ ≤ 7301080 by omega⟩ (fun z5 z5r => ?_)
    refine ge_istore hC dL_law_50 (by decide) (lv' := [(6, zz_v z5), (0, .ref b), (1, .ref (a 0)), (2, .ref (a 77)), (3, .ref ad), (4, zz_v 1), (5, zz_v (j : Int))]) rfl ?_
    refine ge_aload_n hC dL_law_52 rfl (j := 1) rfl ?_
    refine ge_iconst hC dL_law_53 ?_
    refine ge_iload hC dL_law_54 (j := 6) rfl ?_
    refine ge_imul hC dL_law_56 ?_
    refine ge_iconst hC dL_law_57 ?_
    refine ge_iadd hC dL_law_58 ?_
    refine ge_top (y := ((2 * j + 1 : Nat) : Int)) (by omega) ?_
    refine ge_cell (rest := []) (j := 2 * j + 1) hC hF hX hbl rfl (by omega) hL (va_cwS 2 hts gL_law_L_cell rfl rfl rfl (by decide +kernel) ⟨by decide, by decide⟩) rfl (Nat.le_of_ble_eq_true rfl) dL_law_59 ⟨show _ ≤ 600130 by omega, show _ ≤ 7301080 by omega⟩ (fun z6 z6r => ?_)
    refine ge_istore hC dL_law_62 (by decide) (lv' := [(7, zz_v z6), (6, zz_v z5), (0, .ref b), (1, .ref (a 0)), (2, .ref (a 77)), (3, .ref ad), (4, zz_v 1), (5, zz_v (j : Int))]) rfl ?_
    refine ge_iload hC dL_law_64 (j := 1) rfl ?_
    refine ge_bipush hC dL_law_66 rfl ?_
    refine ge_some (x := z5) (n := 24) (rest := []) hC hF ⟨by omega, by omega⟩ (va_cwS 2 hts gL_law_L_some rfl rfl rfl (by decide +kernel) ⟨by decide, by decide⟩) rfl (Nat.le_of_ble_eq_true rfl) dL_law_68 ⟨show _ ≤ 600130 by omega, show _ ≤ 7301080 by omega⟩ (fun s7 s7a s7b => ?_)
    refine ge_istore hC dL_law_71 (by decide) (lv' := [(8, zz_v s7), (7, zz_v z6), (6, zz_v z5), (0, .ref b), (1, .ref (a 0)), (2, .ref (a 77)), (3, .ref ad), (4, zz_v 1), (5, zz_v (j : Int))]) rfl ?_
    refine ge_iload hC dL_law_73 (j := 0) rfl ?_
    refine ge_iconst hC dL_law_75 ?_
    refine ge_icmp_lt hC dL_law_76 (tgt := 85) (by decide) ⟨by omega, by omega⟩ ⟨by decide, by decide⟩ (fun c8 => ?_) (fun c8 => ?_)
    · skip
      refine ge_aload_n hC dL_law_85 rfl (j := 4) rfl ?_
      refine ge_aload_n hC dL_law_86 rfl (j := 5) rfl ?_
      refine ge_aload_n hC dL_law_87 rfl (j := 6) rfl ?_
      refine ge_iload hC dL_law_88 (j := 2) rfl ?_
      refine ge_iconst hC dL_law_90 ?_
      refine ge_ishrX hC dL_law_91 (fun z9 z9r => ?_)
      obtain ⟨z9a, z9b⟩ := id z9r
      refine ge_iload hC dL_law_92 (j := 1) rfl ?_
      refine ge_step (As := [.ref (a 0), .ref (a 77), .ref ad, zz_v z9, zz_v z6]) (rest := []) hC hF (c_L_offices l hl9 _ G Y a [ad] T V (2 * j) z9 z6 z9r z6r (Nat.le_of_ble_eq_true rfl) (by omega) hI hV) (va_cwS 5 hts gL_law_L_offices rfl rfl rfl (by decide +kernel) ⟨by decide, by decide⟩) rfl rfl (Nat.le_of_ble_eq_true rfl) dL_law_94 ⟨show _ ≤ 600130 by omega, show _ ≤ 7301080 by omega⟩ (fun T1 V1 hI1 hV1 => ?_)
      refine ge_goto hC dL_law_97 (tgt := 174) (by decide) ?_
      refine ge_sub [3, 4, 5, 6, 8] (lv' := [(0, .ref b), (1, .ref (a 0)), (2, .ref (a 77)), (3, .ref ad), (5, zz_v (j : Int))]) rfl ?_
      exact ge_wide (by omega) (lw_half l hl9 Hq (by omega) hI1 hV1 (kk (by omega) T1 V1 hI1 hV1))
    · skip
      refine ge_iload hC dL_law_79 (j := 8) rfl ?_
      refine ge_iconst hC dL_law_81 ?_
      refine ge_icmp_ge hC dL_law_82 (tgt := 100) (by decide) ⟨by omega, by omega⟩ ⟨by decide, by decide⟩ (fun c10 => ?_) (fun c10 => ?_)
      · skip
        refine ge_iload hC dL_law_100 (j := 0) rfl ?_
        refine ge_bipush hC dL_law_102 rfl ?_
        refine ge_icmp_ge hC dL_law_104 (tgt := 122) (by decide) ⟨by omega, by omega⟩ ⟨by decide, by decide⟩ (fun c11 => ?_) (fun c11 => ?_)
        · skip
          refine ge_iload hC dL_law_122 (j := 0) rfl ?_
          refine ge_bipush hC dL_law_124 rfl ?_
          refine ge_icmp_ge hC dL_law_126 (tgt := 144) (by decide) ⟨by omega, by omega⟩ ⟨by decide, by decide⟩ (fun c12 => ?_) (fun c12 => ?_)
          · skip
            refine ge_iload hC dL_law_144 (j := 0) rfl ?_
            refine ge_bipush hC dL_law_146 rfl ?_
            refine ge_icmp_ge hC dL_law_148 (tgt := 166) (by decide) ⟨by omega, by omega⟩ ⟨by decide, by decide⟩ (fun c13 => ?_) (fun c13 => ?_)
            · skip
              refine ge_aload_n hC dL_law_166 rfl (j := 4) rfl ?_
              refine ge_aload_n hC dL_law_167 rfl (j := 5) rfl ?_
              refine ge_aload_n hC dL_law_168 rfl (j := 6) rfl ?_
              refine ge_iload hC dL_law_169 (j := 1) rfl ?_
              refine ge_step (As := [.ref (a 0), .ref (a 77), .ref ad, zz_v z6]) (rest := []) hC hF (c_L_passes l hl9 _ G Y a T V (2 * j) ad z6 z6r (by omega) hI hV) (va_cwS 4 hts gL_law_L_passes rfl rfl rfl (by decide +kernel) ⟨by decide, by decide⟩) rfl rfl (Nat.le_of_ble_eq_true rfl) dL_law_171 ⟨show _ ≤ 600130 by omega, show _ ≤ 7301080 by omega⟩ (fun T1 V1 hI1 hV1 => ?_)
              refine ge_sub [3, 4, 5, 6, 8] (lv' := [(0, .ref b), (1, .ref (a 0)), (2, .ref (a 77)), (3, .ref ad), (5, zz_v (j : Int))]) rfl ?_
              exact ge_wide (by omega) (lw_half l hl9 Hq (by omega) hI1 hV1 (kk (by omega) T1 V1 hI1 hV1))
            · skip
              refine ge_aload_n hC dL_law_151 rfl (j := 4) rfl ?_
              refine ge_aload_n hC dL_law_152 rfl (j := 5) rfl ?_
              refine ge_aload_n hC dL_law_153 rfl (j := 6) rfl ?_
              refine ge_iload hC dL_law_154 (j := 2) rfl ?_
              refine ge_iconst hC dL_law_156 ?_
              refine ge_ishrX hC dL_law_157 (fun z14 z14r => ?_)
              obtain ⟨z14a, z14b⟩ := id z14r
              refine ge_iload hC dL_law_158 (j := 1) rfl ?_
              refine ge_step (As := [.ref (a 0), .ref (a 77), .ref ad, zz_v z14, zz_v z6]) (rest := []) hC hF (c_L_files l hl9 _ G Y a [ad] T V (2 * j) z14 z6 z14r z6r (Nat.le_of_ble_eq_true rfl) (by omega) hI hV) (va_cwS 5 hts gL_law_L_files rfl rfl rfl (by decide +kernel) ⟨by decide, by decide⟩) rfl rfl (Nat.le_of_ble_eq_true rfl) dL_law_160 ⟨show _ ≤ 600130 by omega, show _ ≤ 7301080 by omega⟩ (fun T1 V1 hI1 hV1 => ?_)
              refine ge_goto hC dL_law_163 (tgt := 174) (by decide) ?_
              refine ge_sub [3, 4, 5, 6, 8] (lv' := [(0, .ref b), (1, .ref (a 0)), (2, .ref (a 77)), (3, .ref ad), (5, zz_v (j : Int))]) rfl ?_
              exact ge_wide (by omega) (lw_half l hl9 Hq (by omega) hI1 hV1 (kk (by omega) T1 V1 hI1 hV1))
          · skip
            refine ge_aload_n hC dL_law_129 rfl (j := 4) rfl ?_
            refine ge_aload_n hC dL_law_130 rfl (j := 5) rfl ?_
            refine ge_aload_n hC dL_law_131 rfl (j := 6) rfl ?_
            refine ge_iload hC dL_law_132 (j := 2) rfl ?_
            refine ge_iconst hC dL_law_134 ?_
            refine ge_ishrX hC dL_law_135 (fun z15 z15r => ?_)
            obtain ⟨z15a, z15b⟩ := id z15r
            refine ge_iload hC dL_law_136 (j := 1) rfl ?_
            refine ge_step (As := [.ref (a 0), .ref (a 77), .ref ad, zz_v z15, zz_v z6]) (rest := []) hC hF (c_L_pleas l hl9 _ G Y a [ad] T V (2 * j) z15 z6 z15r z6r (Nat.le_of_ble_eq_true rfl) (by omega) hI hV) (va_cwS 5 hts gL_law_L_pleas rfl rfl rfl (by decide +kernel) ⟨by decide, by decide⟩) rfl rfl (Nat.le_of_ble_eq_true rfl) dL_law_138 ⟨show _ ≤ 600130 by omega, show _ ≤ 7301080 by omega⟩ (fun T1 V1 hI1 hV1 => ?_)
            refine ge_goto hC dL_law_141 (tgt := 174) (by decide) ?_
            refine ge_sub [3, 4, 5, 6, 8] (lv' := [(0, .ref b), (1, .ref (a 0)), (2, .ref (a 77)), (3, .ref ad), (5, zz_v (j : Int))]) rfl ?_
            exact ge_wide (by omega) (lw_half l hl9 Hq (by omega) hI1 hV1 (kk (by omega) T1 V1 hI1 hV1))
        · skip
          refine ge_aload_n hC dL_law_107 rfl (j := 4) rfl ?_
          refine ge_aload_n hC dL_law_108 rfl (j := 5) rfl ?_
          refine ge_aload_n hC dL_law_109 rfl (j := 6) rfl ?_
          refine ge_iload hC dL_law_110 (j := 2) rfl ?_
          refine ge_iconst hC dL_law_112 ?_
          refine ge_ishrX hC dL_law_113 (fun z16 z16r => ?_)
          obtain ⟨z16a, z16b⟩ := id z16r
          refine ge_iload hC dL_law_114 (j := 1) rfl ?_
          refine ge_step (As := [.ref (a 0), .ref (a 77), .ref ad, zz_v z16, zz_v z6]) (rest := []) hC hF (c_L_acts l hl9 _ G Y a [ad] T V (2 * j) z16 z6 z16r z6r (Nat.le_of_ble_eq_true rfl) (by omega) hI hV) (va_cwS 5 hts gL_law_L_acts rfl rfl rfl (by decide +kernel) ⟨by decide, by decide⟩) rfl rfl (Nat.le_of_ble_eq_true rfl) dL_law_116 ⟨show _ ≤ 600130 by omega, show _ ≤ 7301080 by omega⟩ (fun T1 V1 hI1 hV1 => ?_)
          refine ge_goto hC dL_law_119 (tgt := 174) (by decide) ?_
          refine ge_sub [3, 4, 5, 6, 8] (lv' := [(0, .ref b), (1, .ref (a 0)), (2, .ref (a 77)), (3, .ref ad), (5, zz_v (j : Int))]) rfl ?_
          exact ge_wide (by omega) (lw_half l hl9 Hq (by omega) hI1 hV1 (kk (by omega) T1 V1 hI1 hV1))
      · skip
        refine ge_aload_n hC dL_law_85 rfl (j := 4) rfl ?_
        refine ge_aload_n hC dL_law_86 rfl (j := 5) rfl ?_
        refine ge_aload_n hC dL_law_87 rfl (j := 6) rfl ?_
        refine ge_iload hC dL_law_88 (j := 2) rfl ?_
        refine ge_iconst hC dL_law_90 ?_
        refine ge_ishrX hC dL_law_91 (fun z17 z17r => ?_)
        obtain ⟨z17a, z17b⟩ := id z17r
        refine ge_iload hC dL_law_92 (j := 1) rfl ?_
        refine ge_step (As := [.ref (a 0), .ref (a 77), .ref ad, zz_v z17, zz_v z6]) (rest := []) hC hF (c_L_offices l hl9 _ G Y a [ad] T V (2 * j) z17 z6 z17r z6r (Nat.le_of_ble_eq_true rfl) (by omega) hI hV) (va_cwS 5 hts gL_law_L_offices rfl rfl rfl (by decide +kernel) ⟨by decide, by decide⟩) rfl rfl (Nat.le_of_ble_eq_true rfl) dL_law_94 ⟨show _ ≤ 600130 by omega, show _ ≤ 7301080 by omega⟩ (fun T1 V1 hI1 hV1 => ?_)
        refine ge_goto hC dL_law_97 (tgt := 174) (by decide) ?_
        refine ge_sub [3, 4, 5, 6, 8] (lv' := [(0, .ref b), (1, .ref (a 0)), (2, .ref (a 77)), (3, .ref ad), (5, zz_v (j : Int))]) rfl ?_
        exact ge_wide (by omega) (lw_half l hl9 Hq (by omega) hI1 hV1 (kk (by omega) T1 V1 hI1 hV1))
theorem lw_loop {p : Program} {e : Env} {s : State} {m : MethodId} {below : List Frame} {meth : Method} {c : Code} {b L : Nat} {xs : Nat → Int32} {G : zz_G} {Y : zz_Y} {a : Nat → Nat} {ad : Nat} (l : Launch) (hl9 : l.stackTraces = false) (Hq : zq_ p s m meth c b L xs G Y) : ∀ (f j : Nat) (T V : zz_S), f + j = 120 → zi_ T (2 * j) → zi_V T V → zg_ p l e s m b below meth c G a ad (2500 + 2400 * j) T V 30 (zv_ b a ad j) [] := by
  intro f
  induction f with
  | zero => exact fun j T V h1 h2 h3 => lw_step l hl9 Hq (by omega) h2 h3 (fun h4 => absurd h4 (by omega))
  | succ f ih => exact fun j T V h1 h2 h3 => lw_step l hl9 Hq (by omega) h2 h3 (fun h4 T1 V1 h5 h6 => ih (j + 1) T1 V1 (by omega) h5 h6)
