/-! a throw that this method catches -/
section ZC
variable {p : Program} {l : Launch} {e : Env} {R : Room} {s : State} {m : MethodId} {args : Array Value} {below : List Frame} {meth : Method} {c : Code} {Q : State → Prop} {N0 : Nat} {G : zz_G} {a : Nat → Nat} {nL k : Nat} {S : zz_S} {pc : Nat} {lv : List (Nat × Value)} {st : List Value} {cc : ByteArray} {own : String}
theorem gx_catch {E name : String} (hC : zz_C p c cc nL s m own) (pre : List ExceptionTableEntry) (x : ExceptionTableEntry) (suf : List ExceptionTableEntry) (hsplit : c.exceptionTable.toList = pre ++ x :: suf)
    (hpass : ∀ z ∈ pre, covers z pc = false ∨ (z.catchType ≠ 0 ∧ ∃ nm : String, (Cond.classLink own z.catchType nm).before args s = true ∧ va_Nc E nm s)) (hx : covers x pc = true) (h0 : x.catchType ≠ 0)
    (hlink : (Cond.classLink own x.catchType name).before args s = true) (hcast : (Cond.castable E name).before args s = true)
    (kk : ∀ q9 : Nat, Gd_ p l e R s m args below meth c Q N0 G a nL k S x.handlerPc lv [.ref q9]) : Gx_ p l e R s m args below meth c Q N0 G a nL k S pc lv st E := by
  intro hR H locs ls q9 ce hP hD hS hl hce hcv hcl
  exact vx_catch hC.2.2.2 pre x suf hsplit hpass hx h0 hlink hcast hce hcv hcl (kk q9 hR H locs ls hP hD hS hl)
end ZC
/-- a contract out of the walk of a body with handlers -/
theorem Ct_.ofH {l : Launch} {y : MethodName} {ws ws' : List Cond} {rm : Room} {K : Nat} {av : List Value} {N0 : Nat} {G : zz_G} {Y : zz_Y} {a : Nat → Nat} {S : zz_S} {post : Option Value → zz_S → Prop} {px : String → zz_S → Prop} {cc : ByteArray} {maxL : Nat} {ret : Option FieldType} {hh : List (Nat × Nat × Nat × Nat)}
    (hy : plainName y.cls = true) (hw : ws = Cond.codeWith y cc maxL ret hh :: ws') (hlen : (lg_sl av).length ≤ maxL)
    (body : ∀ (p : Program) (e : Env) (s : State) (m : MethodId) (args : Array Value) (below : List Frame) (meth : Method) (c : Code), zz_C p c cc maxL s m y.cls → (∀ w ∈ ws, w.before args s = true) → meth.sig.returnType = ret → meth.locks = false → c.exceptionTable.toList = tableOf hh → zz_F s N0 G Y →
      Gd_ p l e rm s m args below meth c (vx_MQ below (zz_Q N0 G a post) (zz_X N0 G a px) args s K (6 * K) (zz_A N0)) N0 G a maxL 0 S 0 (lv_args 0 av) []) : Ct_ l y ws rm K av N0 G Y a S post px := by
  refine vx_ofWH hy hw ?_
  intro p e s m args below meth c s₁ B hml hv
  obtain ⟨rfl, h1, h2, h3, h4, h5, h6⟩ := hv
  have hts := atoms_spec (ws := ws) B.pre
  have ht : c.exceptionTable.toList = tableOf hh := vx_table (x := y) B (hts (Cond.codeWith y cc maxL ret hh) (by rw [hw]; exact List.mem_cons_self))
  have hl := lv_entry av (n := maxL) hlen
  have hg := body p e s m av.toArray below meth c ⟨B.exec, B.bytes, hml, findClass_of_methodNamed B.named⟩ hts B.returns B.notSynchronized ht ⟨h1, h3, h6⟩ h5 s.heap [] _ h2 h4 va_S.rf hl
  rw [lg_entry_eq]
  exact hg
abbrev rm_L_does : Room := { frames := 8, cells := 4, slots := 24, locals := 153 }
abbrev rm_L_call : Room := { frames := 9, cells := 4, slots := 24, locals := 177 }
set_option maxHeartbeats 4000000 in
set_option maxRecDepth 100000 in
theorem c_L_does_letter (l : Launch) (hl9 : l.stackTraces = false) (N0 : Nat) (G : zz_G) (Y : zz_Y) (a : Nat → Nat) (S : zz_S) (y w : Int) (x : Int) (hx : 0 ≤ x ∧ x < 65536) (hI : zz_IC S) : CtR l yL_does wsL_does rm_L_does 4 [.ref (a 0), zz_v 0, zz_v x, zz_v y, zz_v w] N0 G Y a S (S 0 1 + 1) (zz_u (zz_u (S) (1) ((S 0 1).toNat) (x)) (0) (1) (S 0 1 + 1)) (97 ≤ x ∧ x ≤ 122 ∧ S 0 1 < 7) (False) (x < 97 ∨ 122 < x) ((97 ≤ x ∧ x ≤ 122) ∧ 7 ≤ S 0 1) := by
  refine Ct_.of (cc := cL_does) (maxL := 5) (ret := (some .int)) (by decide) rfl (Nat.le_of_ble_eq_true rfl) ?_
  intro p e s m args below meth c hC hts hr hlk hex hF
  refine gd_lveq (lv' := [(0, .ref (a 0)), (1, zz_v 0), (2, zz_v x), (3, zz_v y), (4, zz_v w)]) rfl ?_
  refine gd_iload_n hC dL_does_0 rfl (j := 1) rfl ?_
  refine gd_tableIn hC dL_does_1 0 rfl ⟨by decide, by decide⟩ (by decide) (by decide) rfl (tgt := 104) (by decide) ?_
  refine gd_aload_n hC dL_does_104 rfl (j := 0) rfl ?_
  refine gd_iload_n hC dL_does_105 rfl (j := 2) rfl ?_
  refine gd_i2c hC dL_does_106 ?_
  refine gd_top (y := x) (by omega) ?_
  refine gd_callVR (As := [zz_v x]) (rest := []) hC hF (fun hR => c_X3_letter l hl9 N0 G Y a S x hx hI) (cwV 1 hts gL_does_X3_letter rfl rfl rfl (by decide +kernel) ⟨by decide, by decide⟩) rfl (by decide) (ci := 3) rfl rfl rfl rfl (Nat.le_of_ble_eq_true rfl) dL_does_107 ⟨by decide, by decide⟩ (fun E hx => gx_out (Y := Y) (fun x h => (hex x h).elim) hlk ⟨rfl, hx⟩ (by decide)) (fun q qr => ?_)
  exact gd_ireturn hC hr rfl hlk dL_does_110 (by decide) ⟨_, qr, rfl, rfl, rfl, q⟩
set_option maxHeartbeats 4000000 in
set_option maxRecDepth 100000 in
theorem c_L_does_office (l : Launch) (hl9 : l.stackTraces = false) (N0 : Nat) (G : zz_G) (Y : zz_Y) (a : Nat → Nat) (S : zz_S) (y w : Int) (x : Int) (hx : zz_R x) (hI : zz_IC S) : CtR l yL_does wsL_does rm_L_does 4 [.ref (a 0), zz_v 1, zz_v x, zz_v y, zz_v w] N0 G Y a S (S 0 3) (zz_u (zz_u (S) (2) ((S 0 3).toNat) (x)) (0) (3) (S 0 3 + 1)) ((x = -1 ∨ (0 ≤ x ∧ x < S 0 3)) ∧ S 0 3 < 10) (¬ x = -1 ∧ (x < 0 ∨ S 0 3 ≤ x)) (False) ((x = -1 ∨ (0 ≤ x ∧ x < S 0 3)) ∧ 10 ≤ S 0 3) := by
  refine Ct_.of (cc := cL_does) (maxL := 5) (ret := (some .int)) (by decide) rfl (Nat.le_of_ble_eq_true rfl) ?_
  intro p e s m args below meth c hC hts hr hlk hex hF
  refine gd_lveq (lv' := [(0, .ref (a 0)), (1, zz_v 1), (2, zz_v x), (3, zz_v y), (4, zz_v w)]) rfl ?_
  refine gd_iload_n hC dL_does_0 rfl (j := 1) rfl ?_
  refine gd_tableIn hC dL_does_1 1 rfl ⟨by decide, by decide⟩ (by decide) (by decide) rfl (tgt := 111) (by decide) ?_
  refine gd_aload_n hC dL_does_111 rfl (j := 0) rfl ?_
  refine gd_iload_n hC dL_does_112 rfl (j := 2) rfl ?_
  refine gd_callVR (As := [zz_v x]) (rest := []) hC hF (fun hR => c_X3_office l hl9 N0 G Y a S x hx hI) (cwV 1 hts gL_does_X3_office rfl rfl rfl (by decide +kernel) ⟨by decide, by decide⟩) rfl (by decide) (ci := 3) rfl rfl rfl rfl (Nat.le_of_ble_eq_true rfl) dL_does_113 ⟨by decide, by decide⟩ (fun E hx => gx_out (Y := Y) (fun x h => (hex x h).elim) hlk ⟨rfl, hx⟩ (by decide)) (fun q qr => ?_)
  exact gd_ireturn hC hr rfl hlk dL_does_116 (by decide) ⟨_, qr, rfl, rfl, rfl, q⟩
set_option maxHeartbeats 4000000 in
set_option maxRecDepth 100000 in
theorem c_L_does_delegate (l : Launch) (hl9 : l.stackTraces = false) (N0 : Nat) (G : zz_G) (Y : zz_Y) (a : Nat → Nat) (S : zz_S) (w : Int) (x y : Int) (hx : zz_R x) (hy : zz_R y) (hd : S 3 3 < 512) (hI : zz_IC S) : CtR l yL_does wsL_does rm_L_does 4 [.ref (a 0), zz_v 2, zz_v x, zz_v y, zz_v w] N0 G Y a S (zz_vo (S 4) (S 5) (S 6) x (S 0 10) (-1) (S 3 3).toNat) (zz_u (zz_u (zz_u (zz_u (S) (4) ((S 3 3).toNat) (x)) (5) ((S 3 3).toNat) ((S 0 10))) (6) ((S 3 3).toNat) (y)) (3) (3) (S 3 3 + 1)) ((0 ≤ x ∧ x < S 0 3) ∧ (y = -1 ∨ (0 ≤ y ∧ y < S 0 3)) ∧ ¬ x = y) (¬ (0 ≤ x ∧ x < S 0 3) ∨ ¬ (y = -1 ∨ (0 ≤ y ∧ y < S 0 3))) ((0 ≤ x ∧ x < S 0 3) ∧ (y = -1 ∨ (0 ≤ y ∧ y < S 0 3)) ∧ x = y) (False) := by
  refine Ct_.of (cc := cL_does) (maxL := 5) (ret := (some .int)) (by decide) rfl (Nat.le_of_ble_eq_true rfl) ?_
  intro p e s m args below meth c hC hts hr hlk hex hF
  refine gd_lveq (lv' := [(0, .ref (a 0)), (1, zz_v 2), (2, zz_v x), (3, zz_v y), (4, zz_v w)]) rfl ?_
  refine gd_iload_n hC dL_does_0 rfl (j := 1) rfl ?_
  refine gd_tableIn hC dL_does_1 2 rfl ⟨by decide, by decide⟩ (by decide) (by decide) rfl (tgt := 117) (by decide) ?_
  refine gd_aload_n hC dL_does_117 rfl (j := 0) rfl ?_
  refine gd_iload_n hC dL_does_118 rfl (j := 2) rfl ?_
  refine gd_iload_n hC dL_does_119 rfl (j := 3) rfl ?_
  refine gd_callVR (As := [zz_v x, zz_v y]) (rest := []) hC hF (fun hR => c_X3_delegate l hl9 N0 G Y a S x y hx hy hd hI) (cwV 2 hts gL_does_X3_delegate rfl rfl rfl (by decide +kernel) ⟨by decide, by decide⟩) rfl (by decide) (ci := 3) rfl rfl rfl rfl (Nat.le_of_ble_eq_true rfl) dL_does_120 ⟨by decide, by decide⟩ (fun E hx => gx_out (Y := Y) (fun x h => (hex x h).elim) hlk ⟨rfl, hx⟩ (by decide)) (fun q qr => ?_)
  exact gd_ireturn hC hr rfl hlk dL_does_123 (by decide) ⟨_, qr, rfl, rfl, rfl, q⟩
set_option maxHeartbeats 4000000 in
set_option maxRecDepth 100000 in
theorem c_L_does_whose (l : Launch) (hl9 : l.stackTraces = false) (N0 : Nat) (G : zz_G) (Y : zz_Y) (a : Nat → Nat) (S : zz_S) (w : Int) (x y : Int) (hx : zz_R x) (hy : zz_R y) (hI : zz_IC S) : CtR l yL_does wsL_does rm_L_does 4 [.ref (a 0), zz_v 3, zz_v x, zz_v y, zz_v w] N0 G Y a S (zz_oo (S 4) (S 5) (S 6) (S 3 3).toNat y 10 x) (S) ((0 ≤ x ∧ x < S 0 3) ∧ 0 ≤ y ∧ y ≤ S 0 10) (¬ (0 ≤ x ∧ x < S 0 3)) ((0 ≤ x ∧ x < S 0 3) ∧ ¬ (0 ≤ y ∧ y ≤ S 0 10)) (False) := by
  refine Ct_.of (cc := cL_does) (maxL := 5) (ret := (some .int)) (by decide) rfl (Nat.le_of_ble_eq_true rfl) ?_
  intro p e s m args below meth c hC hts hr hlk hex hF
  refine gd_lveq (lv' := [(0, .ref (a 0)), (1, zz_v 3), (2, zz_v x), (3, zz_v y), (4, zz_v w)]) rfl ?_
  refine gd_iload_n hC dL_does_0 rfl (j := 1) rfl ?_
  refine gd_tableIn hC dL_does_1 3 rfl ⟨by decide, by decide⟩ (by decide) (by decide) rfl (tgt := 124) (by decide) ?_
  refine gd_aload_n hC dL_does_124 rfl (j := 0) rfl ?_
  refine gd_iload_n hC dL_does_125 rfl (j := 2) rfl ?_
  refine gd_iload_n hC dL_does_126 rfl (j := 3) rfl ?_
  refine gd_callVR (As := [zz_v x, zz_v y]) (rest := []) hC hF (fun hR => c_X3_whose l hl9 N0 G Y a S x y hx hy hI) (cwV 2 hts gL_does_X3_whose rfl rfl rfl (by decide +kernel) ⟨by decide, by decide⟩) rfl (by decide) (ci := 3) rfl rfl rfl rfl (Nat.le_of_ble_eq_true rfl) dL_does_127 ⟨by decide, by decide⟩ (fun E hx => gx_out (Y := Y) (fun x h => (hex x h).elim) hlk ⟨rfl, hx⟩ (by decide)) (fun q qr => ?_)
  exact gd_ireturn hC hr rfl hlk dL_does_130 (by decide) ⟨_, qr, rfl, rfl, rfl, q⟩
set_option maxHeartbeats 4000000 in
set_option maxRecDepth 100000 in
theorem c_L_does_limit (l : Launch) (hl9 : l.stackTraces = false) (N0 : Nat) (G : zz_G) (Y : zz_Y) (a : Nat → Nat) (S : zz_S) (w : Int) (x y : Int) (hx : zz_R x) (hy : zz_R y) (hd : S 7 3 < 512) (hI : zz_IC S) : CtR l yL_does wsL_does rm_L_does 4 [.ref (a 0), zz_v 4, zz_v x, zz_v y, zz_v w] N0 G Y a S (zz_vo (S 8) (S 9) (S 10) x (S 0 10) 30 (S 7 3).toNat) (zz_u (zz_u (zz_u (zz_u (S) (8) ((S 7 3).toNat) (x)) (9) ((S 7 3).toNat) ((S 0 10))) (10) ((S 7 3).toNat) (y)) (7) (3) (S 7 3 + 1)) ((0 ≤ x ∧ x < 4) ∧ (0 ≤ y ∧ y ≤ 100)) (¬ (0 ≤ x ∧ x < 4)) ((0 ≤ x ∧ x < 4) ∧ ¬ (0 ≤ y ∧ y ≤ 100)) (False) := by
  refine Ct_.of (cc := cL_does) (maxL := 5) (ret := (some .int)) (by decide) rfl (Nat.le_of_ble_eq_true rfl) ?_
  intro p e s m args below meth c hC hts hr hlk hex hF
  refine gd_lveq (lv' := [(0, .ref (a 0)), (1, zz_v 4), (2, zz_v x), (3, zz_v y), (4, zz_v w)]) rfl ?_
  refine gd_iload_n hC dL_does_0 rfl (j := 1) rfl ?_
  refine gd_tableIn hC dL_does_1 4 rfl ⟨by decide, by decide⟩ (by decide) (by decide) rfl (tgt := 131) (by decide) ?_
  refine gd_aload_n hC dL_does_131 rfl (j := 0) rfl ?_
  refine gd_iload_n hC dL_does_132 rfl (j := 2) rfl ?_
  refine gd_iload_n hC dL_does_133 rfl (j := 3) rfl ?_
  refine gd_callVR (As := [zz_v x, zz_v y]) (rest := []) hC hF (fun hR => c_X3_limit l hl9 N0 G Y a S x y hx hy hd hI) (cwV 2 hts gL_does_X3_limit rfl rfl rfl (by decide +kernel) ⟨by decide, by decide⟩) rfl (by decide) (ci := 3) rfl rfl rfl rfl (Nat.le_of_ble_eq_true rfl) dL_does_134 ⟨by decide, by decide⟩ (fun E hx => gx_out (Y := Y) (fun x h => (hex x h).elim) hlk ⟨rfl, hx⟩ (by decide)) (fun q qr => ?_)
  exact gd_ireturn hC hr rfl hlk dL_does_137 (by decide) ⟨_, qr, rfl, rfl, rfl, q⟩
set_option maxHeartbeats 4000000 in
set_option maxRecDepth 100000 in
theorem c_L_does_act (l : Launch) (hl9 : l.stackTraces = false) (N0 : Nat) (G : zz_G) (Y : zz_Y) (a : Nat → Nat) (S : zz_S) (x y w : Int) (hx : zz_R x) (hy : zz_R y) (hw : zz_R w) (hI : zz_IC S) : CtR l yL_does wsL_does rm_L_does 4 [.ref (a 0), zz_v 5, zz_v x, zz_v y, zz_v w] N0 G Y a S (if zz_tk (S 1) (S 0 1) = -1 then -1 else S 0 7) (zz_aS S x y w) (((0 ≤ x ∧ x < S 0 3) ∧ ((0 ≤ y ∧ y ≤ 100) ∧ (0 ≤ w ∧ w ≤ 1000))) ∧ S 0 7 < 24) (¬ (0 ≤ x ∧ x < S 0 3)) ((0 ≤ x ∧ x < S 0 3) ∧ ¬ ((0 ≤ y ∧ y ≤ 100) ∧ (0 ≤ w ∧ w ≤ 1000))) (((0 ≤ x ∧ x < S 0 3) ∧ ((0 ≤ y ∧ y ≤ 100) ∧ (0 ≤ w ∧ w ≤ 1000))) ∧ 24 ≤ S 0 7) := by
  refine Ct_.of (cc := cL_does) (maxL := 5) (ret := (some .int)) (by decide) rfl (Nat.le_of_ble_eq_true rfl) ?_
  intro p e s m args below meth c hC hts hr hlk hex hF
  refine gd_lveq (lv' := [(0, .ref (a 0)), (1, zz_v 5), (2, zz_v x), (3, zz_v y), (4, zz_v w)]) rfl ?_
  refine gd_iload_n hC dL_does_0 rfl (j := 1) rfl ?_
  refine gd_tableIn hC dL_does_1 5 rfl ⟨by decide, by decide⟩ (by decide) (by decide) rfl (tgt := 138) (by decide) ?_
  refine gd_aload_n hC dL_does_138 rfl (j := 0) rfl ?_
  refine gd_iload_n hC dL_does_139 rfl (j := 2) rfl ?_
  refine gd_iload_n hC dL_does_140 rfl (j := 3) rfl ?_
  refine gd_iload hC dL_does_141 (j := 4) rfl ?_
  refine gd_callVR (As := [zz_v x, zz_v y, zz_v w]) (rest := []) hC hF (fun hR => c_X3_act l hl9 N0 G Y a S x y w hx hy hw hI) (cwV 3 hts gL_does_X3_act rfl rfl rfl (by decide +kernel) ⟨by decide, by decide⟩) rfl (by decide) (ci := 3) rfl rfl rfl rfl (Nat.le_of_ble_eq_true rfl) dL_does_143 ⟨by decide, by decide⟩ (fun E hx => gx_out (Y := Y) (fun x h => (hex x h).elim) hlk ⟨rfl, hx⟩ (by decide)) (fun q qr => ?_)
  exact gd_ireturn hC hr rfl hlk dL_does_146 (by decide) ⟨_, qr, rfl, rfl, rfl, q⟩
set_option maxHeartbeats 4000000 in
set_option maxRecDepth 100000 in
theorem c_L_does_court_0 (l : Launch) (hl9 : l.stackTraces = false) (N0 : Nat) (G : zz_G) (Y : zz_Y) (a : Nat → Nat) (S : zz_S) (w : Int) (x : Int) (hx : zz_R x) (hI : zz_IC S) : CtR l yL_does wsL_does rm_L_does 4 [.ref (a 0), zz_v 6, zz_v x, zz_v 0, zz_v w] N0 G Y a S (S (13 + x.toNat) 5) (zz_u (S) (13 + x.toNat) (5) (0)) ((0 ≤ x ∧ x < S 0 7)) (¬ (0 ≤ x ∧ x < S 0 7)) (False) (False) := by
  refine Ct_.of (cc := cL_does) (maxL := 5) (ret := (some .int)) (by decide) rfl (Nat.le_of_ble_eq_true rfl) ?_
  intro p e s m args below meth c hC hts hr hlk hex hF
  refine gd_lveq (lv' := [(0, .ref (a 0)), (1, zz_v 6), (2, zz_v x), (3, zz_v 0), (4, zz_v w)]) rfl ?_
  refine gd_iload_n hC dL_does_0 rfl (j := 1) rfl ?_
  refine gd_tableIn hC dL_does_1 6 rfl ⟨by decide, by decide⟩ (by decide) (by decide) rfl (tgt := 147) (by decide) ?_
  refine gd_aload_n hC dL_does_147 rfl (j := 0) rfl ?_
  refine gd_iload_n hC dL_does_148 rfl (j := 2) rfl ?_
  refine gd_iload_n hC dL_does_149 rfl (j := 3) rfl ?_
  refine gd_iconst hC dL_does_150 ?_
  refine gd_icmp_ne hC dL_does_151 (tgt := 158) (by decide) ⟨by decide, by decide⟩ ⟨by decide, by decide⟩ (fun c1 => ?_) (fun c1 => (by omega))
  refine gd_iconst hC dL_does_158 ?_
  refine gd_callVR (As := [zz_v x, zz_v 0]) (rest := []) hC hF (fun hR => c_X3_court l hl9 N0 G Y a S x 0 hx (by omega) hI) (cwV 2 hts gL_does_X3_court rfl rfl rfl (by decide +kernel) ⟨by decide, by decide⟩) rfl (by decide) (ci := 3) rfl rfl rfl rfl (Nat.le_of_ble_eq_true rfl) dL_does_159 ⟨by decide, by decide⟩ (fun E hx => gx_out (Y := Y) (fun x h => (hex x h).elim) hlk ⟨rfl, hx⟩ (by decide)) (fun q qr => ?_)
  refine gd_if_eq hC dL_does_162 (tgt := 169) (by decide) qr (fun c2 => ?_) (fun c2 => ?_)
  · skip
    refine gd_iconst hC dL_does_169 ?_
    exact gd_ireturn hC hr rfl hlk dL_does_170 (by decide) ⟨_, ⟨by decide, by decide⟩, rfl, rfl, c2.symm, q⟩
  · skip
    refine gd_iconst hC dL_does_165 ?_
    refine gd_goto hC dL_does_166 (tgt := 170) (by decide) ?_
    exact gd_ireturn hC hr rfl hlk dL_does_170 (by decide) ⟨_, ⟨by decide, by decide⟩, rfl, rfl, (by obtain ⟨itc, ioc, iac, icc, itd, idc, ilc, iab, idv, iow, ikd, idy, ims, ihm, ict, iwv, irm, ipl, ian, ist, idl, ipe, ifi, ias, ihe, ifn, iod, ity⟩ := id hI; have h9 := ict x.toNat (by omega); omega), q⟩
set_option maxHeartbeats 4000000 in
set_option maxRecDepth 100000 in
theorem c_L_does_court_1 (l : Launch) (hl9 : l.stackTraces = false) (N0 : Nat) (G : zz_G) (Y : zz_Y) (a : Nat → Nat) (S : zz_S) (w : Int) (x : Int) (hx : zz_R x) (hI : zz_IC S) : CtR l yL_does wsL_does rm_L_does 4 [.ref (a 0), zz_v 6, zz_v x, zz_v 1, zz_v w] N0 G Y a S (S (13 + x.toNat) 5) (zz_u (S) (13 + x.toNat) (5) (1)) ((0 ≤ x ∧ x < S 0 7)) (¬ (0 ≤ x ∧ x < S 0 7)) (False) (False) := by
  refine Ct_.of (cc := cL_does) (maxL := 5) (ret := (some .int)) (by decide) rfl (Nat.le_of_ble_eq_true rfl) ?_
  intro p e s m args below meth c hC hts hr hlk hex hF
  refine gd_lveq (lv' := [(0, .ref (a 0)), (1, zz_v 6), (2, zz_v x), (3, zz_v 1), (4, zz_v w)]) rfl ?_
  refine gd_iload_n hC dL_does_0 rfl (j := 1) rfl ?_
  refine gd_tableIn hC dL_does_1 6 rfl ⟨by decide, by decide⟩ (by decide) (by decide) rfl (tgt := 147) (by decide) ?_
  refine gd_aload_n hC dL_does_147 rfl (j := 0) rfl ?_
  refine gd_iload_n hC dL_does_148 rfl (j := 2) rfl ?_
  refine gd_iload_n hC dL_does_149 rfl (j := 3) rfl ?_
  refine gd_iconst hC dL_does_150 ?_
  refine gd_icmp_ne hC dL_does_151 (tgt := 158) (by decide) ⟨by decide, by decide⟩ ⟨by decide, by decide⟩ (fun c1 => (by omega)) (fun c1 => ?_)
  refine gd_iconst hC dL_does_154 ?_
  refine gd_goto hC dL_does_155 (tgt := 159) (by decide) ?_
  refine gd_callVR (As := [zz_v x, zz_v 1]) (rest := []) hC hF (fun hR => c_X3_court l hl9 N0 G Y a S x 1 hx (by omega) hI) (cwV 2 hts gL_does_X3_court rfl rfl rfl (by decide +kernel) ⟨by decide, by decide⟩) rfl (by decide) (ci := 3) rfl rfl rfl rfl (Nat.le_of_ble_eq_true rfl) dL_does_159 ⟨by decide, by decide⟩ (fun E hx => gx_out (Y := Y) (fun x h => (hex x h).elim) hlk ⟨rfl, hx⟩ (by decide)) (fun q qr => ?_)
  refine gd_if_eq hC dL_does_162 (tgt := 169) (by decide) qr (fun c2 => ?_) (fun c2 => ?_)
  · skip
    refine gd_iconst hC dL_does_169 ?_
    exact gd_ireturn hC hr rfl hlk dL_does_170 (by decide) ⟨_, ⟨by decide, by decide⟩, rfl, rfl, c2.symm, q⟩
  · skip
    refine gd_iconst hC dL_does_165 ?_
    refine gd_goto hC dL_does_166 (tgt := 170) (by decide) ?_
    exact gd_ireturn hC hr rfl hlk dL_does_170 (by decide) ⟨_, ⟨by decide, by decide⟩, rfl, rfl, (by obtain ⟨itc, ioc, iac, icc, itd, idc, ilc, iab, idv, iow, ikd, idy, ims, ihm, ict, iwv, irm, ipl, ian, ist, idl, ipe, ifi, ias, ihe, ifn, iod, ity⟩ := id hI; have h9 := ict x.toNat (by omega); omega), q⟩
set_option maxHeartbeats 4000000 in
set_option maxRecDepth 100000 in
theorem c_L_does_waive_0 (l : Launch) (hl9 : l.stackTraces = false) (N0 : Nat) (G : zz_G) (Y : zz_Y) (a : Nat → Nat) (S : zz_S) (w : Int) (x : Int) (hx : zz_R x) (hI : zz_IC S) : CtR l yL_does wsL_does rm_L_does 4 [.ref (a 0), zz_v 7, zz_v x, zz_v 0, zz_v w] N0 G Y a S (S (13 + x.toNat) 6) (zz_u (S) (13 + x.toNat) (6) (0)) ((0 ≤ x ∧ x < S 0 7)) (¬ (0 ≤ x ∧ x < S 0 7)) (False) (False) := by
  refine Ct_.of (cc := cL_does) (maxL := 5) (ret := (some .int)) (by decide) rfl (Nat.le_of_ble_eq_true rfl) ?_
  intro p e s m args below meth c hC hts hr hlk hex hF
  refine gd_lveq (lv' := [(0, .ref (a 0)), (1, zz_v 7), (2, zz_v x), (3, zz_v 0), (4, zz_v w)]) rfl ?_
  refine gd_iload_n hC dL_does_0 rfl (j := 1) rfl ?_
  refine gd_tableIn hC dL_does_1 7 rfl ⟨by decide, by decide⟩ (by decide) (by decide) rfl (tgt := 171) (by decide) ?_
  refine gd_aload_n hC dL_does_171 rfl (j := 0) rfl ?_
  refine gd_iload_n hC dL_does_172 rfl (j := 2) rfl ?_
  refine gd_iload_n hC dL_does_173 rfl (j := 3) rfl ?_
  refine gd_iconst hC dL_does_174 ?_
  refine gd_icmp_ne hC dL_does_175 (tgt := 182) (by decide) ⟨by decide, by decide⟩ ⟨by decide, by decide⟩ (fun c1 => ?_) (fun c1 => (by omega))
  refine gd_iconst hC dL_does_182 ?_
  refine gd_callVR (As := [zz_v x, zz_v 0]) (rest := []) hC hF (fun hR => c_X3_waive l hl9 N0 G Y a S x 0 hx (by omega) hI) (cwV 2 hts gL_does_X3_waive rfl rfl rfl (by decide +kernel) ⟨by decide, by decide⟩) rfl (by decide) (ci := 3) rfl rfl rfl rfl (Nat.le_of_ble_eq_true rfl) dL_does_183 ⟨by decide, by decide⟩ (fun E hx => gx_out (Y := Y) (fun x h => (hex x h).elim) hlk ⟨rfl, hx⟩ (by decide)) (fun q qr => ?_)
  refine gd_if_eq hC dL_does_186 (tgt := 193) (by decide) qr (fun c2 => ?_) (fun c2 => ?_)
  · skip
    refine gd_iconst hC dL_does_193 ?_
    exact gd_ireturn hC hr rfl hlk dL_does_194 (by decide) ⟨_, ⟨by decide, by decide⟩, rfl, rfl, c2.symm, q⟩
  · skip
    refine gd_iconst hC dL_does_189 ?_
    refine gd_goto hC dL_does_190 (tgt := 194) (by decide) ?_
    exact gd_ireturn hC hr rfl hlk dL_does_194 (by decide) ⟨_, ⟨by decide, by decide⟩, rfl, rfl, (by obtain ⟨itc, ioc, iac, icc, itd, idc, ilc, iab, idv, iow, ikd, idy, ims, ihm, ict, iwv, irm, ipl, ian, ist, idl, ipe, ifi, ias, ihe, ifn, iod, ity⟩ := id hI; have h9 := iwv x.toNat (by omega); omega), q⟩
set_option maxHeartbeats 4000000 in
set_option maxRecDepth 100000 in
theorem c_L_does_waive_1 (l : Launch) (hl9 : l.stackTraces = false) (N0 : Nat) (G : zz_G) (Y : zz_Y) (a : Nat → Nat) (S : zz_S) (w : Int) (x : Int) (hx : zz_R x) (hI : zz_IC S) : CtR l yL_does wsL_does rm_L_does 4 [.ref (a 0), zz_v 7, zz_v x, zz_v 1, zz_v w] N0 G Y a S (S (13 + x.toNat) 6) (zz_u (S) (13 + x.toNat) (6) (1)) ((0 ≤ x ∧ x < S 0 7)) (¬ (0 ≤ x ∧ x < S 0 7)) (False) (False) := by
  refine Ct_.of (cc := cL_does) (maxL := 5) (ret := (some .int)) (by decide) rfl (Nat.le_of_ble_eq_true rfl) ?_
  intro p e s m args below meth c hC hts hr hlk hex hF
  refine gd_lveq (lv' := [(0, .ref (a 0)), (1, zz_v 7), (2, zz_v x), (3, zz_v 1), (4, zz_v w)]) rfl ?_
  refine gd_iload_n hC dL_does_0 rfl (j := 1) rfl ?_
  refine gd_tableIn hC dL_does_1 7 rfl ⟨by decide, by decide⟩ (by decide) (by decide) rfl (tgt := 171) (by decide) ?_
  refine gd_aload_n hC dL_does_171 rfl (j := 0) rfl ?_
  refine gd_iload_n hC dL_does_172 rfl (j := 2) rfl ?_
  refine gd_iload_n hC dL_does_173 rfl (j := 3) rfl ?_
  refine gd_iconst hC dL_does_174 ?_
  refine gd_icmp_ne hC dL_does_175 (tgt := 182) (by decide) ⟨by decide, by decide⟩ ⟨by decide, by decide⟩ (fun c1 => (by omega)) (fun c1 => ?_)
  refine gd_iconst hC dL_does_178 ?_
  refine gd_goto hC dL_does_179 (tgt := 183) (by decide) ?_
  refine gd_callVR (As := [zz_v x, zz_v 1]) (rest := []) hC hF (fun hR => c_X3_waive l hl9 N0 G Y a S x 1 hx (by omega) hI) (cwV 2 hts gL_does_X3_waive rfl rfl rfl (by decide +kernel) ⟨by decide, by decide⟩) rfl (by decide) (ci := 3) rfl rfl rfl rfl (Nat.le_of_ble_eq_true rfl) dL_does_183 ⟨by decide, by decide⟩ (fun E hx => gx_out (Y := Y) (fun x h => (hex x h).elim) hlk ⟨rfl, hx⟩ (by decide)) (fun q qr => ?_)
  refine gd_if_eq hC dL_does_186 (tgt := 193) (by decide) qr (fun c2 => ?_) (fun c2 => ?_)
  · skip
    refine gd_iconst hC dL_does_193 ?_
    exact gd_ireturn hC hr rfl hlk dL_does_194 (by decide) ⟨_, ⟨by decide, by decide⟩, rfl, rfl, c2.symm, q⟩
  · skip
    refine gd_iconst hC dL_does_189 ?_
    refine gd_goto hC dL_does_190 (tgt := 194) (by decide) ?_
    exact gd_ireturn hC hr rfl hlk dL_does_194 (by decide) ⟨_, ⟨by decide, by decide⟩, rfl, rfl, (by obtain ⟨itc, ioc, iac, icc, itd, idc, ilc, iab, idv, iow, ikd, idy, ims, ihm, ict, iwv, irm, ipl, ian, ist, idl, ipe, ifi, ias, ihe, ifn, iod, ity⟩ := id hI; have h9 := iwv x.toNat (by omega); omega), q⟩
set_option maxHeartbeats 4000000 in
set_option maxRecDepth 100000 in
theorem c_L_does_plea (l : Launch) (hl9 : l.stackTraces = false) (N0 : Nat) (G : zz_G) (Y : zz_Y) (a : Nat → Nat) (S : zz_S) (w : Int) (x y : Int) (hx : zz_R x) (hy : zz_R y) (hI : zz_IC S) : CtR l yL_does wsL_does rm_L_does 4 [.ref (a 0), zz_v 8, zz_v x, zz_v y, zz_v w] N0 G Y a S (0) (zz_u (S) (37 + y.toNat) (x.toNat) (S 0 10)) ((0 ≤ x ∧ x < 10) ∧ (0 ≤ y ∧ y < S 0 7) ∧ S (37 + y.toNat) x.toNat = -1) (¬ (0 ≤ x ∧ x < 10) ∨ ¬ (0 ≤ y ∧ y < S 0 7)) (False) ((0 ≤ x ∧ x < 10) ∧ (0 ≤ y ∧ y < S 0 7) ∧ ¬ S (37 + y.toNat) x.toNat = -1) := by
  refine Ct_.of (cc := cL_does) (maxL := 5) (ret := (some .int)) (by decide) rfl (Nat.le_of_ble_eq_true rfl) ?_
  intro p e s m args below meth c hC hts hr hlk hex hF
  refine gd_lveq (lv' := [(0, .ref (a 0)), (1, zz_v 8), (2, zz_v x), (3, zz_v y), (4, zz_v w)]) rfl ?_
  refine gd_iload_n hC dL_does_0 rfl (j := 1) rfl ?_
  refine gd_tableIn hC dL_does_1 8 rfl ⟨by decide, by decide⟩ (by decide) (by decide) rfl (tgt := 195) (by decide) ?_
  refine gd_aload_n hC dL_does_195 rfl (j := 0) rfl ?_
  refine gd_iload_n hC dL_does_196 rfl (j := 2) rfl ?_
  refine gd_iload_n hC dL_does_197 rfl (j := 3) rfl ?_
  refine gd_callVN (As := [zz_v x, zz_v y]) (rest := []) hC hF (fun hR => c_X3_plea l hl9 N0 G Y a S x y hx hy hI) (cwV 2 hts gL_does_X3_plea rfl rfl rfl (by decide +kernel) ⟨by decide, by decide⟩) rfl (by decide) (ci := 3) rfl rfl rfl rfl (Nat.le_of_ble_eq_true rfl) dL_does_198 ⟨by decide, by decide⟩ (fun E hx => gx_out (Y := Y) (fun x h => (hex x h).elim) hlk ⟨rfl, hx⟩ (by decide)) (fun q => ?_)
  refine gd_iconst hC dL_does_201 ?_
  exact gd_ireturn hC hr rfl hlk dL_does_202 (by decide) ⟨_, ⟨by decide, by decide⟩, rfl, rfl, rfl, q⟩
set_option maxHeartbeats 4000000 in
set_option maxRecDepth 100000 in
theorem c_L_does_bar (l : Launch) (hl9 : l.stackTraces = false) (N0 : Nat) (G : zz_G) (Y : zz_Y) (a : Nat → Nat) (S : zz_S) (w : Int) (x y : Int) (hx : zz_R x) (hy : zz_R y) (hI : zz_IC S) : CtR l yL_does wsL_does rm_L_does 4 [.ref (a 0), zz_v 9, zz_v x, zz_v y, zz_v w] N0 G Y a S (zz_ba S y.toNat x.toNat (S 0 10)) (S) ((0 ≤ x ∧ x < 10) ∧ (0 ≤ y ∧ y < S 0 7)) (¬ (0 ≤ x ∧ x < 10) ∨ ¬ (0 ≤ y ∧ y < S 0 7)) (False) (False) := by
  refine Ct_.of (cc := cL_does) (maxL := 5) (ret := (some .int)) (by decide) rfl (Nat.le_of_ble_eq_true rfl) ?_
  intro p e s m args below meth c hC hts hr hlk hex hF
  refine gd_lveq (lv' := [(0, .ref (a 0)), (1, zz_v 9), (2, zz_v x), (3, zz_v y), (4, zz_v w)]) rfl ?_
  refine gd_iload_n hC dL_does_0 rfl (j := 1) rfl ?_
  refine gd_tableIn hC dL_does_1 9 rfl ⟨by decide, by decide⟩ (by decide) (by decide) rfl (tgt := 203) (by decide) ?_
  refine gd_aload_n hC dL_does_203 rfl (j := 0) rfl ?_
  refine gd_iload_n hC dL_does_204 rfl (j := 2) rfl ?_
  refine gd_iload_n hC dL_does_205 rfl (j := 3) rfl ?_
  refine gd_callVR (As := [zz_v x, zz_v y]) (rest := []) hC hF (fun hR => c_X3_bar l hl9 N0 G Y a S x y hx hy hI) (cwV 2 hts gL_does_X3_bar rfl rfl rfl (by decide +kernel) ⟨by decide, by decide⟩) rfl (by decide) (ci := 3) rfl rfl rfl rfl (Nat.le_of_ble_eq_true rfl) dL_does_206 ⟨by decide, by decide⟩ (fun E hx => gx_out (Y := Y) (fun x h => (hex x h).elim) hlk ⟨rfl, hx⟩ (by decide)) (fun q qr => ?_)
  exact gd_ireturn hC hr rfl hlk dL_does_209 (by decide) ⟨_, qr, rfl, rfl, rfl, q⟩
set_option maxHeartbeats 4000000 in
set_option maxRecDepth 100000 in
theorem c_L_does_complain (l : Launch) (hl9 : l.stackTraces = false) (N0 : Nat) (G : zz_G) (Y : zz_Y) (a : Nat → Nat) (S : zz_S) (w : Int) (x y : Int) (hx : zz_R x) (hy : zz_R y) (hI : zz_IC S) : CtR l yL_does wsL_does rm_L_does 4 [.ref (a 0), zz_v 10, zz_v x, zz_v y, zz_v w] N0 G Y a S (if zz_cj S y (S 0 9).toNat 0 = -1 then S 0 9 else zz_cj S y (S 0 9).toNat 0) (zz_cS S x y) ((0 ≤ x ∧ x < 10) ∧ (0 ≤ y ∧ y < S 0 7) ∧ zz_ba S y.toNat x.toNat (S 0 10) = 0 ∧ (zz_cj S y (S 0 9).toNat 0 = -1 → S 0 9 < 16)) (¬ (0 ≤ x ∧ x < 10) ∨ ¬ (0 ≤ y ∧ y < S 0 7)) (False) ((0 ≤ x ∧ x < 10) ∧ (0 ≤ y ∧ y < S 0 7) ∧ (¬ zz_ba S y.toNat x.toNat (S 0 10) = 0 ∨ (zz_cj S y (S 0 9).toNat 0 = -1 ∧ 16 ≤ S 0 9))) := by
  refine Ct_.of (cc := cL_does) (maxL := 5) (ret := (some .int)) (by decide) rfl (Nat.le_of_ble_eq_true rfl) ?_
  intro p e s m args below meth c hC hts hr hlk hex hF
  refine gd_lveq (lv' := [(0, .ref (a 0)), (1, zz_v 10), (2, zz_v x), (3, zz_v y), (4, zz_v w)]) rfl ?_
  refine gd_iload_n hC dL_does_0 rfl (j := 1) rfl ?_
  refine gd_tableIn hC dL_does_1 10 rfl ⟨by decide, by decide⟩ (by decide) (by decide) rfl (tgt := 210) (by decide) ?_
  refine gd_aload_n hC dL_does_210 rfl (j := 0) rfl ?_
  refine gd_iload_n hC dL_does_211 rfl (j := 2) rfl ?_
  refine gd_iload_n hC dL_does_212 rfl (j := 3) rfl ?_
  refine gd_callVR (As := [zz_v x, zz_v y]) (rest := []) hC hF (fun hR => c_X3_complain l hl9 N0 G Y a S x y hx hy hI) (cwV 2 hts gL_does_X3_complain rfl rfl rfl (by decide +kernel) ⟨by decide, by decide⟩) rfl (by decide) (ci := 3) rfl rfl rfl rfl (Nat.le_of_ble_eq_true rfl) dL_does_213 ⟨by decide, by decide⟩ (fun E hx => gx_out (Y := Y) (fun x h => (hex x h).elim) hlk ⟨rfl, hx⟩ (by decide)) (fun q qr => ?_)
  exact gd_ireturn hC hr rfl hlk dL_does_216 (by decide) ⟨_, qr, rfl, rfl, rfl, q⟩
set_option maxHeartbeats 4000000 in
set_option maxRecDepth 100000 in
theorem c_L_does_ask (l : Launch) (hl9 : l.stackTraces = false) (N0 : Nat) (G : zz_G) (Y : zz_Y) (a : Nat → Nat) (S : zz_S) (y w : Int) (x : Int) (hx : zz_R x) (hI : zz_IC S) : CtR l yL_does wsL_does rm_L_does 4 [.ref (a 0), zz_v 11, zz_v x, zz_v y, zz_v w] N0 G Y a S (S (13 + (S (61 + x.toNat) 0).toNat) 0) (zz_u (zz_u (S) (61 + x.toNat) (4) (1)) (61 + x.toNat) (5) (S 0 10)) ((0 ≤ x ∧ x < S 0 9) ∧ S (61 + x.toNat) 1 = 0 ∧ S (61 + x.toNat) 4 = 0) (¬ (0 ≤ x ∧ x < S 0 9)) (False) ((0 ≤ x ∧ x < S 0 9) ∧ ¬ (S (61 + x.toNat) 1 = 0 ∧ S (61 + x.toNat) 4 = 0)) := by
  refine Ct_.of (cc := cL_does) (maxL := 5) (ret := (some .int)) (by decide) rfl (Nat.le_of_ble_eq_true rfl) ?_
  intro p e s m args below meth c hC hts hr hlk hex hF
  refine gd_lveq (lv' := [(0, .ref (a 0)), (1, zz_v 11), (2, zz_v x), (3, zz_v y), (4, zz_v w)]) rfl ?_
  refine gd_iload_n hC dL_does_0 rfl (j := 1) rfl ?_
  refine gd_tableIn hC dL_does_1 11 rfl ⟨by decide, by decide⟩ (by decide) (by decide) rfl (tgt := 217) (by decide) ?_
  refine gd_aload_n hC dL_does_217 rfl (j := 0) rfl ?_
  refine gd_iload_n hC dL_does_218 rfl (j := 2) rfl ?_
  refine gd_callVR (As := [zz_v x]) (rest := []) hC hF (fun hR => c_X3_ask l hl9 N0 G Y a S x hx hI) (cwV 1 hts gL_does_X3_ask rfl rfl rfl (by decide +kernel) ⟨by decide, by decide⟩) rfl (by decide) (ci := 3) rfl rfl rfl rfl (Nat.le_of_ble_eq_true rfl) dL_does_219 ⟨by decide, by decide⟩ (fun E hx => gx_out (Y := Y) (fun x h => (hex x h).elim) hlk ⟨rfl, hx⟩ (by decide)) (fun q qr => ?_)
  exact gd_ireturn hC hr rfl hlk dL_does_222 (by decide) ⟨_, qr, rfl, rfl, rfl, q⟩
set_option maxHeartbeats 4000000 in
set_option maxRecDepth 100000 in
theorem c_L_does_answer (l : Launch) (hl9 : l.stackTraces = false) (N0 : Nat) (G : zz_G) (Y : zz_Y) (a : Nat → Nat) (S : zz_S) (y w : Int) (x : Int) (hx : zz_R x) (hI : zz_IC S) : CtR l yL_does wsL_does rm_L_does 4 [.ref (a 0), zz_v 12, zz_v x, zz_v y, zz_v w] N0 G Y a S (S 0 10 - S (61 + x.toNat) 5) (zz_u (S) (61 + x.toNat) (4) (2)) ((0 ≤ x ∧ x < S 0 9) ∧ S (61 + x.toNat) 4 = 1) (¬ (0 ≤ x ∧ x < S 0 9)) (False) ((0 ≤ x ∧ x < S 0 9) ∧ ¬ S (61 + x.toNat) 4 = 1) := by
  refine Ct_.of (cc := cL_does) (maxL := 5) (ret := (some .int)) (by decide) rfl (Nat.le_of_ble_eq_true rfl) ?_
  intro p e s m args below meth c hC hts hr hlk hex hF
  refine gd_lveq (lv' := [(0, .ref (a 0)), (1, zz_v 12), (2, zz_v x), (3, zz_v y), (4, zz_v w)]) rfl ?_
  refine gd_iload_n hC dL_does_0 rfl (j := 1) rfl ?_
  refine gd_tableIn hC dL_does_1 12 rfl ⟨by decide, by decide⟩ (by decide) (by decide) rfl (tgt := 223) (by decide) ?_
  refine gd_aload_n hC dL_does_223 rfl (j := 0) rfl ?_
  refine gd_iload_n hC dL_does_224 rfl (j := 2) rfl ?_
  refine gd_callVR (As := [zz_v x]) (rest := []) hC hF (fun hR => c_X3_answer l hl9 N0 G Y a S x hx hI) (cwV 1 hts gL_does_X3_answer rfl rfl rfl (by decide +kernel) ⟨by decide, by decide⟩) rfl (by decide) (ci := 3) rfl rfl rfl rfl (Nat.le_of_ble_eq_true rfl) dL_does_225 ⟨by decide, by decide⟩ (fun E hx => gx_out (Y := Y) (fun x h => (hex x h).elim) hlk ⟨rfl, hx⟩ (by decide)) (fun q qr => ?_)
  exact gd_ireturn hC hr rfl hlk dL_does_228 (by decide) ⟨_, qr, rfl, rfl, rfl, q⟩
set_option maxHeartbeats 4000000 in
set_option maxRecDepth 100000 in
theorem c_L_does_hear (l : Launch) (hl9 : l.stackTraces = false) (N0 : Nat) (G : zz_G) (Y : zz_Y) (a : Nat → Nat) (S : zz_S) (y w : Int) (x : Int) (hx : zz_R x) (hI : zz_IC S) : CtR l yL_does wsL_does rm_L_does 4 [.ref (a 0), zz_v 13, zz_v x, zz_v y, zz_v w] N0 G Y a S (0) (zz_u (S) (61 + x.toNat) (6) (1)) ((0 ≤ x ∧ x < S 0 9) ∧ S (61 + x.toNat) 1 = 0 ∧ S (61 + x.toNat) 4 = 2 ∧ S (61 + x.toNat) 6 = 0) (¬ (0 ≤ x ∧ x < S 0 9)) (False) ((0 ≤ x ∧ x < S 0 9) ∧ ¬ (S (61 + x.toNat) 1 = 0 ∧ S (61 + x.toNat) 4 = 2 ∧ S (61 + x.toNat) 6 = 0)) := by
  refine Ct_.of (cc := cL_does) (maxL := 5) (ret := (some .int)) (by decide) rfl (Nat.le_of_ble_eq_true rfl) ?_
  intro p e s m args below meth c hC hts hr hlk hex hF
  refine gd_lveq (lv' := [(0, .ref (a 0)), (1, zz_v 13), (2, zz_v x), (3, zz_v y), (4, zz_v w)]) rfl ?_
  refine gd_iload_n hC dL_does_0 rfl (j := 1) rfl ?_
  refine gd_tableIn hC dL_does_1 13 rfl ⟨by decide, by decide⟩ (by decide) (by decide) rfl (tgt := 229) (by decide) ?_
  refine gd_aload_n hC dL_does_229 rfl (j := 0) rfl ?_
  refine gd_iload_n hC dL_does_230 rfl (j := 2) rfl ?_
  refine gd_callVN (As := [zz_v x]) (rest := []) hC hF (fun hR => c_X3_hear l hl9 N0 G Y a S x hx hI) (cwV 1 hts gL_does_X3_hear rfl rfl rfl (by decide +kernel) ⟨by decide, by decide⟩) rfl (by decide) (ci := 3) rfl rfl rfl rfl (Nat.le_of_ble_eq_true rfl) dL_does_231 ⟨by decide, by decide⟩ (fun E hx => gx_out (Y := Y) (fun x h => (hex x h).elim) hlk ⟨rfl, hx⟩ (by decide)) (fun q => ?_)
  refine gd_iconst hC dL_does_234 ?_
  exact gd_ireturn hC hr rfl hlk dL_does_235 (by decide) ⟨_, ⟨by decide, by decide⟩, rfl, rfl, rfl, q⟩
set_option maxHeartbeats 4000000 in
set_option maxRecDepth 100000 in
theorem c_L_does_find (l : Launch) (hl9 : l.stackTraces = false) (N0 : Nat) (G : zz_G) (Y : zz_Y) (a : Nat → Nat) (S : zz_S) (y w : Int) (x : Int) (hx : zz_R x) (hI : zz_IC S) : CtR l yL_does wsL_does rm_L_does 4 [.ref (a 0), zz_v 14, zz_v x, zz_v y, zz_v w] N0 G Y a S (zz_ft S (S (61 + x.toNat) 0).toNat) (zz_u (zz_u (S) (61 + x.toNat) (7) ((zz_ft S (S (61 + x.toNat) 0).toNat))) (61 + x.toNat) (1) (1)) ((0 ≤ x ∧ x < S 0 9) ∧ S (61 + x.toNat) 1 = 0 ∧ ¬ S (61 + x.toNat) 6 = 0) (¬ (0 ≤ x ∧ x < S 0 9)) (False) ((0 ≤ x ∧ x < S 0 9) ∧ ¬ (S (61 + x.toNat) 1 = 0 ∧ ¬ S (61 + x.toNat) 6 = 0)) := by
  refine Ct_.of (cc := cL_does) (maxL := 5) (ret := (some .int)) (by decide) rfl (Nat.le_of_ble_eq_true rfl) ?_
  intro p e s m args below meth c hC hts hr hlk hex hF
  refine gd_lveq (lv' := [(0, .ref (a 0)), (1, zz_v 14), (2, zz_v x), (3, zz_v y), (4, zz_v w)]) rfl ?_
  refine gd_iload_n hC dL_does_0 rfl (j := 1) rfl ?_
  refine gd_tableIn hC dL_does_1 14 rfl ⟨by decide, by decide⟩ (by decide) (by decide) rfl (tgt := 236) (by decide) ?_
  refine gd_aload_n hC dL_does_236 rfl (j := 0) rfl ?_
  refine gd_iload_n hC dL_does_237 rfl (j := 2) rfl ?_
  refine gd_callVR (As := [zz_v x]) (rest := []) hC hF (fun hR => c_X3_find l hl9 N0 G Y a S x hx hI) (cwV 1 hts gL_does_X3_find rfl rfl rfl (by decide +kernel) ⟨by decide, by decide⟩) rfl (by decide) (ci := 3) rfl rfl rfl rfl (Nat.le_of_ble_eq_true rfl) dL_does_238 ⟨by decide, by decide⟩ (fun E hx => gx_out (Y := Y) (fun x h => (hex x h).elim) hlk ⟨rfl, hx⟩ (by decide)) (fun q qr => ?_)
  exact gd_ireturn hC hr rfl hlk dL_does_241 (by decide) ⟨_, qr, rfl, rfl, rfl, q⟩
set_option maxHeartbeats 4000000 in
set_option maxRecDepth 100000 in
theorem c_L_does_remedy (l : Launch) (hl9 : l.stackTraces = false) (N0 : Nat) (G : zz_G) (Y : zz_Y) (a : Nat → Nat) (S : zz_S) (w : Int) (x y : Int) (hx : zz_R x) (hy : zz_R y) (hI : zz_IC S) : CtR l yL_does wsL_does rm_L_does 4 [.ref (a 0), zz_v 15, zz_v x, zz_v y, zz_v w] N0 G Y a S (zz_rn S x.toNat (S 0 7).toNat) (zz_rS S x.toNat y (S 0 7).toNat) ((0 ≤ x ∧ x < S 0 9) ∧ (0 ≤ y ∧ y ≤ 100) ∧ S (61 + x.toNat) 1 = 1 ∧ ¬ S (61 + x.toNat) 7 = 0) (¬ (0 ≤ x ∧ x < S 0 9)) ((0 ≤ x ∧ x < S 0 9) ∧ ¬ (0 ≤ y ∧ y ≤ 100)) ((0 ≤ x ∧ x < S 0 9) ∧ (0 ≤ y ∧ y ≤ 100) ∧ ¬ (S (61 + x.toNat) 1 = 1 ∧ ¬ S (61 + x.toNat) 7 = 0)) := by
  refine Ct_.of (cc := cL_does) (maxL := 5) (ret := (some .int)) (by decide) rfl (Nat.le_of_ble_eq_true rfl) ?_
  intro p e s m args below meth c hC hts hr hlk hex hF
  refine gd_lveq (lv' := [(0, .ref (a 0)), (1, zz_v 15), (2, zz_v x), (3, zz_v y), (4, zz_v w)]) rfl ?_
  refine gd_iload_n hC dL_does_0 rfl (j := 1) rfl ?_
  refine gd_tableIn hC dL_does_1 15 rfl ⟨by decide, by decide⟩ (by decide) (by decide) rfl (tgt := 242) (by decide) ?_
  refine gd_aload_n hC dL_does_242 rfl (j := 0) rfl ?_
  refine gd_iload_n hC dL_does_243 rfl (j := 2) rfl ?_
  refine gd_iload_n hC dL_does_244 rfl (j := 3) rfl ?_
  refine gd_callVR (As := [zz_v x, zz_v y]) (rest := []) hC hF (fun hR => c_X3_remedy l hl9 N0 G Y a S x y hx hy hI) (cwV 2 hts gL_does_X3_remedy rfl rfl rfl (by decide +kernel) ⟨by decide, by decide⟩) rfl (by decide) (ci := 3) rfl rfl rfl rfl (Nat.le_of_ble_eq_true rfl) dL_does_245 ⟨by decide, by decide⟩ (fun E hx => gx_out (Y := Y) (fun x h => (hex x h).elim) hlk ⟨rfl, hx⟩ (by decide)) (fun q qr => ?_)
  exact gd_ireturn hC hr rfl hlk dL_does_248 (by decide) ⟨_, qr, rfl, rfl, rfl, q⟩
set_option maxHeartbeats 4000000 in
set_option maxRecDepth 100000 in
theorem c_L_does_pass (l : Launch) (hl9 : l.stackTraces = false) (N0 : Nat) (G : zz_G) (Y : zz_Y) (a : Nat → Nat) (S : zz_S) (y w : Int) (x : Int) (hx : zz_R x) (hI : zz_IC S) : CtR l yL_does wsL_does rm_L_does 4 [.ref (a 0), zz_v 16, zz_v x, zz_v y, zz_v w] N0 G Y a S (S 0 10 + x) (zz_pS (zz_u S 0 10 (S 0 10 + x)) x (S 0 9).toNat) (1 ≤ x ∧ x ≤ 100 ∧ S 0 10 + x ≤ 5000) (False) (¬ (1 ≤ x ∧ x ≤ 100)) ((1 ≤ x ∧ x ≤ 100) ∧ 5000 < S 0 10 + x) := by
  refine Ct_.of (cc := cL_does) (maxL := 5) (ret := (some .int)) (by decide) rfl (Nat.le_of_ble_eq_true rfl) ?_
  intro p e s m args below meth c hC hts hr hlk hex hF
  refine gd_lveq (lv' := [(0, .ref (a 0)), (1, zz_v 16), (2, zz_v x), (3, zz_v y), (4, zz_v w)]) rfl ?_
  refine gd_iload_n hC dL_does_0 rfl (j := 1) rfl ?_
  refine gd_tableIn hC dL_does_1 16 rfl ⟨by decide, by decide⟩ (by decide) (by decide) rfl (tgt := 249) (by decide) ?_
  refine gd_aload_n hC dL_does_249 rfl (j := 0) rfl ?_
  refine gd_iload_n hC dL_does_250 rfl (j := 2) rfl ?_
  refine gd_callVR (As := [zz_v x]) (rest := []) hC hF (fun hR => c_X3_pass l hl9 N0 G Y a S x hx hI) (cwV 1 hts gL_does_X3_pass rfl rfl rfl (by decide +kernel) ⟨by decide, by decide⟩) rfl (by decide) (ci := 3) rfl rfl rfl rfl (Nat.le_of_ble_eq_true rfl) dL_does_251 ⟨by decide, by decide⟩ (fun E hx => gx_out (Y := Y) (fun x h => (hex x h).elim) hlk ⟨rfl, hx⟩ (by decide)) (fun q qr => ?_)
  exact gd_ireturn hC hr rfl hlk dL_does_254 (by decide) ⟨_, qr, rfl, rfl, rfl, q⟩
set_option maxHeartbeats 4000000 in
set_option maxRecDepth 100000 in
theorem c_L_does_about (l : Launch) (hl9 : l.stackTraces = false) (N0 : Nat) (G : zz_G) (Y : zz_Y) (a : Nat → Nat) (S : zz_S) (w : Int) (x y : Int) (hx : zz_R x) (hy : zz_R y) (hI : zz_IC S) : CtR l yL_does wsL_does rm_L_does 4 [.ref (a 0), zz_v 17, zz_v x, zz_v y, zz_v w] N0 G Y a S (zz_ab S x.toNat y) (S) ((0 ≤ x ∧ x < S 0 9) ∧ (0 ≤ y ∧ y ≤ 5)) (¬ (0 ≤ x ∧ x < S 0 9)) ((0 ≤ x ∧ x < S 0 9) ∧ ¬ (0 ≤ y ∧ y ≤ 5)) (False) := by
  refine Ct_.of (cc := cL_does) (maxL := 5) (ret := (some .int)) (by decide) rfl (Nat.le_of_ble_eq_true rfl) ?_
  intro p e s m args below meth c hC hts hr hlk hex hF
  refine gd_lveq (lv' := [(0, .ref (a 0)), (1, zz_v 17), (2, zz_v x), (3, zz_v y), (4, zz_v w)]) rfl ?_
  refine gd_iload_n hC dL_does_0 rfl (j := 1) rfl ?_
  refine gd_tableIn hC dL_does_1 17 rfl ⟨by decide, by decide⟩ (by decide) (by decide) rfl (tgt := 255) (by decide) ?_
  refine gd_aload_n hC dL_does_255 rfl (j := 0) rfl ?_
  refine gd_iload_n hC dL_does_256 rfl (j := 2) rfl ?_
  refine gd_iload_n hC dL_does_257 rfl (j := 3) rfl ?_
  refine gd_callVR (As := [zz_v x, zz_v y]) (rest := []) hC hF (fun hR => c_X3_about l hl9 N0 G Y a S x y hx hy hI) (cwV 2 hts gL_does_X3_about rfl rfl rfl (by decide +kernel) ⟨by decide, by decide⟩) rfl (by decide) (ci := 3) rfl rfl rfl rfl (Nat.le_of_ble_eq_true rfl) dL_does_258 ⟨by decide, by decide⟩ (fun E hx => gx_out (Y := Y) (fun x h => (hex x h).elim) hlk ⟨rfl, hx⟩ (by decide)) (fun q qr => ?_)
  exact gd_ireturn hC hr rfl hlk dL_does_261 (by decide) ⟨_, qr, rfl, rfl, rfl, q⟩
set_option maxHeartbeats 4000000 in
set_option maxRecDepth 100000 in
theorem c_L_does_reminder (l : Launch) (hl9 : l.stackTraces = false) (N0 : Nat) (G : zz_G) (Y : zz_Y) (a : Nat → Nat) (S : zz_S) (y w : Int) (x : Int) (hx : zz_R x) (hI : zz_IC S) : CtR l yL_does wsL_does rm_L_does 4 [.ref (a 0), zz_v 18, zz_v x, zz_v y, zz_v w] N0 G Y a S (if S (61 + x.toNat) 4 = 1 then zz_cb S ((S 0 10 - S (61 + x.toNat) 5) / 10).toNat (S (13 + (S (61 + x.toNat) 0).toNat) 0) else -1) (S) ((0 ≤ x ∧ x < S 0 9)) (¬ (0 ≤ x ∧ x < S 0 9)) (False) (False) := by
  refine Ct_.of (cc := cL_does) (maxL := 5) (ret := (some .int)) (by decide) rfl (Nat.le_of_ble_eq_true rfl) ?_
  intro p e s m args below meth c hC hts hr hlk hex hF
  refine gd_lveq (lv' := [(0, .ref (a 0)), (1, zz_v 18), (2, zz_v x), (3, zz_v y), (4, zz_v w)]) rfl ?_
  refine gd_iload_n hC dL_does_0 rfl (j := 1) rfl ?_
  refine gd_tableIn hC dL_does_1 18 rfl ⟨by decide, by decide⟩ (by decide) (by decide) rfl (tgt := 262) (by decide) ?_
  refine gd_aload_n hC dL_does_262 rfl (j := 0) rfl ?_
  refine gd_iload_n hC dL_does_263 rfl (j := 2) rfl ?_
  refine gd_callVR (As := [zz_v x]) (rest := []) hC hF (fun hR => c_X3_reminder l hl9 N0 G Y a S x hx hI) (cwV 1 hts gL_does_X3_reminder rfl rfl rfl (by decide +kernel) ⟨by decide, by decide⟩) rfl (by decide) (ci := 3) rfl rfl rfl rfl (Nat.le_of_ble_eq_true rfl) dL_does_264 ⟨by decide, by decide⟩ (fun E hx => gx_out (Y := Y) (fun x h => (hex x h).elim) hlk ⟨rfl, hx⟩ (by decide)) (fun q qr => ?_)
  exact gd_ireturn hC hr rfl hlk dL_does_267 (by decide) ⟨_, qr, rfl, rfl, rfl, q⟩
set_option maxHeartbeats 4000000 in
set_option maxRecDepth 100000 in
theorem c_L_does_fault (l : Launch) (hl9 : l.stackTraces = false) (N0 : Nat) (G : zz_G) (Y : zz_Y) (a : Nat → Nat) (S : zz_S) (y w : Int) (x : Int) (hx : zz_R x) (hI : zz_IC S) : CtR l yL_does wsL_does rm_L_does 4 [.ref (a 0), zz_v 19, zz_v x, zz_v y, zz_v w] N0 G Y a S (zz_ft S x.toNat) (S) ((0 ≤ x ∧ x < S 0 7)) (¬ (0 ≤ x ∧ x < S 0 7)) (False) (False) := by
  refine Ct_.of (cc := cL_does) (maxL := 5) (ret := (some .int)) (by decide) rfl (Nat.le_of_ble_eq_true rfl) ?_
  intro p e s m args below meth c hC hts hr hlk hex hF
  refine gd_lveq (lv' := [(0, .ref (a 0)), (1, zz_v 19), (2, zz_v x), (3, zz_v y), (4, zz_v w)]) rfl ?_
  refine gd_iload_n hC dL_does_0 rfl (j := 1) rfl ?_
  refine gd_tableIn hC dL_does_1 19 rfl ⟨by decide, by decide⟩ (by decide) (by decide) rfl (tgt := 268) (by decide) ?_
  refine gd_aload_n hC dL_does_268 rfl (j := 0) rfl ?_
  refine gd_iload_n hC dL_does_269 rfl (j := 2) rfl ?_
  refine gd_callVR (As := [zz_v x]) (rest := []) hC hF (fun hR => c_X3_fault l hl9 N0 G Y a S x hx hI) (cwV 1 hts gL_does_X3_fault rfl rfl rfl (by decide +kernel) ⟨by decide, by decide⟩) rfl (by decide) (ci := 3) rfl rfl rfl rfl (Nat.le_of_ble_eq_true rfl) dL_does_270 ⟨by decide, by decide⟩ (fun E hx => gx_out (Y := Y) (fun x h => (hex x h).elim) hlk ⟨rfl, hx⟩ (by decide)) (fun q qr => ?_)
  exact gd_ireturn hC hr rfl hlk dL_does_273 (by decide) ⟨_, qr, rfl, rfl, rfl, q⟩
set_option maxHeartbeats 4000000 in
set_option maxRecDepth 100000 in
theorem c_L_does_likes (l : Launch) (hl9 : l.stackTraces = false) (N0 : Nat) (G : zz_G) (Y : zz_Y) (a : Nat → Nat) (S : zz_S) (y w : Int) (x : Int) (hx : zz_R x) (hI : zz_IC S) : CtR l yL_does wsL_does rm_L_does 4 [.ref (a 0), zz_v 20, zz_v x, zz_v y, zz_v w] N0 G Y a S (zz_ln S x.toNat (S 0 7).toNat) (S) ((0 ≤ x ∧ x < S 0 7)) (¬ (0 ≤ x ∧ x < S 0 7)) (False) (False) := by
  refine Ct_.of (cc := cL_does) (maxL := 5) (ret := (some .int)) (by decide) rfl (Nat.le_of_ble_eq_true rfl) ?_
  intro p e s m args below meth c hC hts hr hlk hex hF
  refine gd_lveq (lv' := [(0, .ref (a 0)), (1, zz_v 20), (2, zz_v x), (3, zz_v y), (4, zz_v w)]) rfl ?_
  refine gd_iload_n hC dL_does_0 rfl (j := 1) rfl ?_
  refine gd_tableIn hC dL_does_1 20 rfl ⟨by decide, by decide⟩ (by decide) (by decide) rfl (tgt := 274) (by decide) ?_
  refine gd_aload_n hC dL_does_274 rfl (j := 0) rfl ?_
  refine gd_iload_n hC dL_does_275 rfl (j := 2) rfl ?_
  refine gd_callVR (As := [zz_v x]) (rest := []) hC hF (fun hR => c_X3_likes l hl9 N0 G Y a S x hx hI) (cwV 1 hts gL_does_X3_likes rfl rfl rfl (by decide +kernel) ⟨by decide, by decide⟩) rfl (by decide) (ci := 3) rfl rfl rfl rfl (Nat.le_of_ble_eq_true rfl) dL_does_276 ⟨by decide, by decide⟩ (fun E hx => gx_out (Y := Y) (fun x h => (hex x h).elim) hlk ⟨rfl, hx⟩ (by decide)) (fun q qr => ?_)
  exact gd_ireturn hC hr rfl hlk dL_does_279 (by decide) ⟨_, qr, rfl, rfl, rfl, q⟩
set_option maxHeartbeats 4000000 in
set_option maxRecDepth 100000 in
theorem c_L_does_remedied (l : Launch) (hl9 : l.stackTraces = false) (N0 : Nat) (G : zz_G) (Y : zz_Y) (a : Nat → Nat) (S : zz_S) (y w : Int) (x : Int) (hx : zz_R x) (hI : zz_IC S) : CtR l yL_does wsL_does rm_L_does 4 [.ref (a 0), zz_v 21, zz_v x, zz_v y, zz_v w] N0 G Y a S (S (13 + x.toNat) 7) (S) ((0 ≤ x ∧ x < S 0 7)) (¬ (0 ≤ x ∧ x < S 0 7)) (False) (False) := by
  refine Ct_.of (cc := cL_does) (maxL := 5) (ret := (some .int)) (by decide) rfl (Nat.le_of_ble_eq_true rfl) ?_
  intro p e s m args below meth c hC hts hr hlk hex hF
  refine gd_lveq (lv' := [(0, .ref (a 0)), (1, zz_v 21), (2, zz_v x), (3, zz_v y), (4, zz_v w)]) rfl ?_
  refine gd_iload_n hC dL_does_0 rfl (j := 1) rfl ?_
  refine gd_tableIn hC dL_does_1 21 rfl ⟨by decide, by decide⟩ (by decide) (by decide) rfl (tgt := 280) (by decide) ?_
  refine gd_aload_n hC dL_does_280 rfl (j := 0) rfl ?_
  refine gd_iload_n hC dL_does_281 rfl (j := 2) rfl ?_
  refine gd_callVR (As := [zz_v x]) (rest := []) hC hF (fun hR => c_X3_remedied l hl9 N0 G Y a S x hx hI) (cwV 1 hts gL_does_X3_remedied rfl rfl rfl (by decide +kernel) ⟨by decide, by decide⟩) rfl (by decide) (ci := 3) rfl rfl rfl rfl (Nat.le_of_ble_eq_true rfl) dL_does_282 ⟨by decide, by decide⟩ (fun E hx => gx_out (Y := Y) (fun x h => (hex x h).elim) hlk ⟨rfl, hx⟩ (by decide)) (fun q qr => ?_)
  exact gd_ireturn hC hr rfl hlk dL_does_285 (by decide) ⟨_, qr, rfl, rfl, rfl, q⟩
set_option maxHeartbeats 4000000 in
set_option maxRecDepth 100000 in
theorem c_L_does_gains (l : Launch) (hl9 : l.stackTraces = false) (N0 : Nat) (G : zz_G) (Y : zz_Y) (a : Nat → Nat) (S : zz_S) (w : Int) (x y : Int) (hx : zz_R x) (hy : zz_R y) (hI : zz_IC S) : CtR l yL_does wsL_does rm_L_does 4 [.ref (a 0), zz_v 22, zz_v x, zz_v y, zz_v w] N0 G Y a S (zz_gn S x y (S 0 7).toNat) (S) ((0 ≤ x ∧ x < 4) ∧ (0 ≤ y ∧ y ≤ 100)) (¬ (0 ≤ x ∧ x < 4)) ((0 ≤ x ∧ x < 4) ∧ ¬ (0 ≤ y ∧ y ≤ 100)) (False) := by
  refine Ct_.of (cc := cL_does) (maxL := 5) (ret := (some .int)) (by decide) rfl (Nat.le_of_ble_eq_true rfl) ?_
  intro p e s m args below meth c hC hts hr hlk hex hF
  refine gd_lveq (lv' := [(0, .ref (a 0)), (1, zz_v 22), (2, zz_v x), (3, zz_v y), (4, zz_v w)]) rfl ?_
  refine gd_iload_n hC dL_does_0 rfl (j := 1) rfl ?_
  refine gd_tableOut hC dL_does_1 ⟨by decide, by decide⟩ (by decide) (tgt := 286) (by decide) ?_
  refine gd_aload_n hC dL_does_286 rfl (j := 0) rfl ?_
  refine gd_iload_n hC dL_does_287 rfl (j := 2) rfl ?_
  refine gd_iload_n hC dL_does_288 rfl (j := 3) rfl ?_
  refine gd_callVR (As := [zz_v x, zz_v y]) (rest := []) hC hF (fun hR => c_X3_gains l hl9 N0 G Y a S x y hx hy hI) (cwV 2 hts gL_does_X3_gains rfl rfl rfl (by decide +kernel) ⟨by decide, by decide⟩) rfl (by decide) (ci := 3) rfl rfl rfl rfl (Nat.le_of_ble_eq_true rfl) dL_does_289 ⟨by decide, by decide⟩ (fun E hx => gx_out (Y := Y) (fun x h => (hex x h).elim) hlk ⟨rfl, hx⟩ (by decide)) (fun q qr => ?_)
  exact gd_ireturn hC hr rfl hlk dL_does_292 (by decide) ⟨_, qr, rfl, rfl, rfl, q⟩
/-- how the law's call answers: what the hall's method answers, or which of the law's numbers the exception has -/
def zy_wp (S S1 : zz_S) (e : Int) (F X1 X2 X3 : Prop) (r : Int) (S' : zz_S) : Prop := (r = e ∧ F ∧ S' = S1) ∨ (r = -2000000001 ∧ X1 ∧ S' = S) ∨ (r = -2000000002 ∧ X2 ∧ S' = S) ∨ (r = -2000000003 ∧ X3 ∧ S' = S)
def CtC (l : Launch) (what x y w : Int) (N0 : Nat) (G : zz_G) (Y : zz_Y) (a : Nat → Nat) (S : zz_S) (e : Int) (S1 : zz_S) (F X1 X2 X3 : Prop) : Prop :=
  Ct_ l yL_call wsL_call rm_L_call 4 [.ref (a 0), zz_v what, zz_v x, zz_v y, zz_v w] N0 G Y a S (fun v S' => ∃ r : Int, zz_R r ∧ v = some (zz_v r) ∧ zy_wp S S1 e F X1 X2 X3 r S') (fun _ _ => False)
abbrev CtD (l : Launch) (what x y w : Int) (N0 : Nat) (G : zz_G) (Y : zz_Y) (a : Nat → Nat) (S : zz_S) (e : Int) (S1 : zz_S) (F X1 X2 X3 : Prop) : Prop :=
  CtR l yL_does wsL_does rm_L_does 4 [.ref (a 0), zz_v what, zz_v x, zz_v y, zz_v w] N0 G Y a S e S1 F X1 X2 X3
set_option maxHeartbeats 4000000 in
set_option maxRecDepth 100000 in
theorem c_L_call (l : Launch) (hl9 : l.stackTraces = false) (N0 : Nat) (G : zz_G) (Y : zz_Y) (a : Nat → Nat) (S : zz_S) {what x y w e1 : Int} {S1 : zz_S} {F X1 X2 X3 : Prop} (hD : CtD l what x y w N0 G Y a S e1 S1 F X1 X2 X3) : CtC l what x y w N0 G Y a S e1 S1 F X1 X2 X3 := by
  refine Ct_.ofH (cc := cL_call) (maxL := 6) (ret := (some .int)) (hh := [(0, 9, 10, 15), (0, 9, 15, 18), (0, 9, 20, 21)]) (by decide) rfl (Nat.le_of_ble_eq_true rfl) ?_
  intro p e s m args below meth c hC hts hr hlk hex hF
  have k17 : (Cond.constant RL 17 (Int32.ofInt (-2000000001))).before args s = true := hts _ (by decide +kernel)
  have k20 : (Cond.constant RL 20 (Int32.ofInt (-2000000002))).before args s = true := hts _ (by decide +kernel)
  have k23 : (Cond.constant RL 23 (Int32.ofInt (-2000000003))).before args s = true := hts _ (by decide +kernel)
  refine gd_lveq (lv' := [(0, .ref (a 0)), (1, zz_v what), (2, zz_v x), (3, zz_v y), (4, zz_v w)]) rfl ?_
  refine gd_aload_n hC dL_call_0 rfl (j := 0) rfl ?_
  refine gd_iload_n hC dL_call_1 rfl (j := 1) rfl ?_
  refine gd_iload_n hC dL_call_2 rfl (j := 2) rfl ?_
  refine gd_iload_n hC dL_call_3 rfl (j := 3) rfl ?_
  refine gd_iload hC dL_call_4 (j := 4) rfl ?_
  refine gd_callSR (As := [.ref (a 0), zz_v what, zz_v x, zz_v y, zz_v w]) (rest := []) hC hF (fun hR => hD) (va_cwS 5 hts gL_call_L_does rfl rfl rfl (by decide +kernel) ⟨by decide, by decide⟩) rfl rfl (Nat.le_of_ble_eq_true rfl) dL_call_6 ⟨by decide, by decide⟩ (fun E hx => ?_) (fun q qr => ?_)
  · rcases hx with ⟨rfl, hx⟩ | ⟨rfl, hx⟩ | ⟨rfl, hx⟩
    · refine gx_catch (name := "java/lang/IndexOutOfBoundsException") hC [] ⟨0, 9, 10, 15⟩ [⟨0, 9, 15, 18⟩, ⟨0, 9, 20, 21⟩] (by rw [hex]; rfl) (fun z hz => nomatch hz) rfl (by decide) (hts _ (by decide +kernel)) (va_Nw.use (A := args) rfl (hF.2.2.2.2.2.2.2.1 _ (by decide))) (fun q9 => ?_)
      refine gd_astore hC dL_call_10 (by decide) (lv' := [(5, .ref q9), (0, .ref (a 0)), (1, zz_v what), (2, zz_v x), (3, zz_v y), (4, zz_v w)]) rfl ?_
      refine gd_ldc hC (n := -2000000001) k17 dL_call_12 ?_
      exact gd_ireturn hC hr rfl hlk dL_call_14 (by decide) ⟨_, ⟨by decide, by decide⟩, rfl, Or.inr (Or.inl ⟨rfl, hx, rfl⟩)⟩
    · refine gx_catch (name := "java/lang/IllegalArgumentException") hC [⟨0, 9, 10, 15⟩] ⟨0, 9, 15, 18⟩ [⟨0, 9, 20, 21⟩] (by rw [hex]; rfl) (fun z hz => by rcases List.mem_singleton.mp hz with rfl; exact Or.inr ⟨by decide, "java/lang/IndexOutOfBoundsException", hts _ (by decide +kernel), hF.2.2.2.2.2.2.2.2.1 _ (by decide) _ (by decide) (by decide)⟩) rfl (by decide) (hts _ (by decide +kernel)) (va_Nw.use (A := args) rfl (hF.2.2.2.2.2.2.2.1 _ (by decide))) (fun q9 => ?_)
      refine gd_astore hC dL_call_15 (by decide) (lv' := [(5, .ref q9), (0, .ref (a 0)), (1, zz_v what), (2, zz_v x), (3, zz_v y), (4, zz_v w)]) rfl ?_
      refine gd_ldc hC (n := -2000000002) k20 dL_call_17 ?_
      exact gd_ireturn hC hr rfl hlk dL_call_19 (by decide) ⟨_, ⟨by decide, by decide⟩, rfl, Or.inr (Or.inr (Or.inl ⟨rfl, hx, rfl⟩))⟩
    · refine gx_catch (name := "java/lang/IllegalStateException") hC [⟨0, 9, 10, 15⟩, ⟨0, 9, 15, 18⟩] ⟨0, 9, 20, 21⟩ [] (by rw [hex]; rfl) (fun z hz => by
        rcases List.mem_cons.mp hz with rfl | hz
        · exact Or.inr ⟨by decide, "java/lang/IndexOutOfBoundsException", hts _ (by decide +kernel), hF.2.2.2.2.2.2.2.2.1 _ (by decide) _ (by decide) (by decide)⟩
        · rcases List.mem_singleton.mp hz with rfl; exact Or.inr ⟨by decide, "java/lang/IllegalArgumentException", hts _ (by decide +kernel), hF.2.2.2.2.2.2.2.2.1 _ (by decide) _ (by decide) (by decide)⟩) rfl (by decide) (hts _ (by decide +kernel)) (va_Nw.use (A := args) rfl (hF.2.2.2.2.2.2.2.1 _ (by decide))) (fun q9 => ?_)
      refine gd_astore hC dL_call_20 (by decide) (lv' := [(5, .ref q9), (0, .ref (a 0)), (1, zz_v what), (2, zz_v x), (3, zz_v y), (4, zz_v w)]) rfl ?_
      refine gd_ldc hC (n := -2000000003) k23 dL_call_22 ?_
      exact gd_ireturn hC hr rfl hlk dL_call_24 (by decide) ⟨_, ⟨by decide, by decide⟩, rfl, Or.inr (Or.inr (Or.inr (⟨rfl, hx, rfl⟩)))⟩
  · exact gd_ireturn hC hr rfl hlk dL_call_9 (by decide) ⟨_, qr, rfl, Or.inl ⟨rfl, q, rfl⟩⟩
abbrev rm_L_some : Room := { frames := 0, cells := 0, slots := 0, locals := 0 }
set_option maxHeartbeats 4000000 in
set_option maxRecDepth 100000 in
theorem c_L_some (l : Launch) (N0 : Nat) (G : zz_G) (Y : zz_Y) (a : Nat → Nat) (S : zz_S) (x n : Int) (hn : 0 < n ∧ n < 2147483648) : Ct_ l yL_some wsL_some rm_L_some 0 [zz_v x, zz_v n] N0 G Y a S (fun v S' => ∃ r : Int, (0 ≤ r ∧ r < n) ∧ v = some (zz_v r) ∧ S' = S) (fun _ _ => False) := by
  refine Ct_.of (cc := cL_some) (maxL := 2) (ret := (some .int)) (by decide) rfl (Nat.le_of_ble_eq_true rfl) ?_
  intro p e s m args below meth c hC hts hr hlk hex hF
  refine gd_lveq (lv' := [(0, zz_v x), (1, zz_v n)]) rfl ?_
  refine gd_iload_n hC dL_some_0 rfl (j := 0) rfl ?_
  refine gd_iconst hC dL_some_1 ?_
  refine gd_iushr1 hC dL_some_2 (fun z hz => ?_)
  refine gd_iload_n hC dL_some_3 rfl (j := 1) rfl ?_
  refine gd_irem hC dL_some_4 hz hn ?_
  exact gd_ireturn hC hr rfl hlk dL_some_5 (by decide) ⟨z % n, ⟨Int.emod_nonneg _ (by omega), Int.emod_lt_of_pos _ hn.1⟩, rfl, rfl⟩
abbrev rm_L_cell : Room := { frames := 0, cells := 0, slots := 0, locals := 0 }
set_option maxHeartbeats 4000000 in
set_option maxRecDepth 100000 in
theorem c_L_cell (l : Launch) (N0 : Nat) (G : zz_G) (Y : zz_Y) (a : Nat → Nat) (S : zz_S) (b L k : Nat) (xs : Nat → Int32) (hk : k < 260) (hL : L ≤ 260) (hbN : b < N0) : vx_Met l yL_cell wsL_cell rm_L_cell (va_Pc [.ref b, zz_v (k : Int)] (fun U => zz_P N0 G Y a S U ∧ va_X b L xs U U.heap)) (zz_Q N0 G a (fun v S' => ∃ r : Int, zz_R r ∧ v = some (zz_v r) ∧ S' = S)) (zz_X N0 G a (fun _ _ => False)) 0 (6 * 0) (zz_A N0) := by
  refine vx_ofW (cc := cL_cell) (maxL := 3) (ret := (some .int)) (by decide) rfl ?_
  intro p e s m args below meth c s₁ B hml ht hv
  obtain ⟨rfl, ⟨h1, h2, h3, h4, h5, h6⟩, hX⟩ := hv
  have hl := lv_entry [.ref b, zz_v (k : Int)] (n := 3) (Nat.le_of_ble_eq_true rfl)
  have hC : zz_C p c cL_cell 3 s m RL := ⟨B.exec, B.bytes, hml, findClass_of_methodNamed B.named⟩
  have hts := atoms_spec (ws := wsL_cell) B.pre
  have hr := B.returns
  have hlk := B.notSynchronized
  have hF : zz_F s N0 G Y := ⟨h1, h3, h6⟩
  have k7 : (Cond.constant RL 7 (Int32.ofInt 91199)).before #[.ref b, zz_v (k : Int)] s = true := hts _ (by decide +kernel)
  have k8 : (Cond.constant RL 8 (Int32.ofInt 1014465357)).before #[.ref b, zz_v (k : Int)] s = true := hts _ (by decide +kernel)
  have hg : Gd_ p l e rm_L_cell s m #[.ref b, zz_v (k : Int)] below meth c (vx_MQ below (zz_Q N0 G a (fun v S' => ∃ r : Int, zz_R r ∧ v = some (zz_v r) ∧ S' = S)) (zz_X N0 G a (fun _ _ => False)) #[.ref b, zz_v (k : Int)] s 0 (6 * 0) (zz_A N0)) N0 G a 3 0 S 0 [(0, .ref b), (1, zz_v (k : Int))] [] := by
    refine gd_iload_n hC dL_cell_0 rfl (j := 1) rfl ?_
    refine gd_aload_n hC dL_cell_1 rfl (j := 0) rfl ?_
    refine gd_sln hC hX hbN hF.1 dL_cell_2 ?_
    refine gd_icmp_ge hC dL_cell_3 (tgt := 12) (by decide) ⟨by omega, by omega⟩ ⟨by omega, by omega⟩ (fun c1 => ?_) (fun c1 => ?_)
    · skip
      refine gd_ldc hC (n := 91199) k7 dL_cell_12 ?_
      refine gd_iload_n hC dL_cell_14 rfl (j := 1) rfl ?_
      refine gd_bipush hC dL_cell_15 rfl ?_
      refine gd_iadd hC dL_cell_17 ?_
      refine gd_imul hC dL_cell_18 ?_
      refine gd_anyI (fun y2 y2r => ?_)
      refine gd_istore_n hC dL_cell_19 rfl (by decide) (lv' := [(2, zz_v y2), (0, .ref b), (1, zz_v (k : Int))]) rfl ?_
      refine gd_iload_n hC dL_cell_20 rfl (j := 0) rfl ?_
      refine gd_iload_n hC dL_cell_21 rfl (j := 0) rfl ?_
      refine gd_bipush hC dL_cell_22 rfl ?_
      refine gd_iushrX hC dL_cell_24 (fun z3 z3r => ?_)
      refine gd_ixorX hC dL_cell_25 (fun z4 z4r => ?_)
      refine gd_ldc hC (n := 1014465357) k8 dL_cell_26 ?_
      refine gd_imul hC dL_cell_28 ?_
      refine gd_sipush hC dL_cell_29 rfl ?_
      refine gd_iload_n hC dL_cell_32 rfl (j := 2) rfl ?_
      refine gd_imul hC dL_cell_33 ?_
      refine gd_iadd hC dL_cell_34 ?_
      refine gd_anyI (fun zz zzr => ?_)
      exact gd_ireturn hC hr rfl hlk dL_cell_35 (by decide) ⟨zz, zzr, rfl, rfl⟩
    · skip
      refine gd_aload_n hC dL_cell_6 rfl (j := 0) rfl ?_
      refine gd_iload_n hC dL_cell_7 rfl (j := 1) rfl ?_
      refine gd_sld hC hX hbN hF.1 hL (j := k) rfl (by omega) dL_cell_8 ?_
      refine gd_goto hC dL_cell_9 (tgt := 19) (by decide) ?_
      refine gd_anyI (fun y5 y5r => ?_)
      refine gd_istore_n hC dL_cell_19 rfl (by decide) (lv' := [(2, zz_v y5), (0, .ref b), (1, zz_v (k : Int))]) rfl ?_
      refine gd_iload_n hC dL_cell_20 rfl (j := 0) rfl ?_
      refine gd_iload_n hC dL_cell_21 rfl (j := 0) rfl ?_
      refine gd_bipush hC dL_cell_22 rfl ?_
      refine gd_iushrX hC dL_cell_24 (fun z6 z6r => ?_)
      refine gd_ixorX hC dL_cell_25 (fun z7 z7r => ?_)
      refine gd_ldc hC (n := 1014465357) k8 dL_cell_26 ?_
      refine gd_imul hC dL_cell_28 ?_
      refine gd_sipush hC dL_cell_29 rfl ?_
      refine gd_iload_n hC dL_cell_32 rfl (j := 2) rfl ?_
      refine gd_imul hC dL_cell_33 ?_
      refine gd_iadd hC dL_cell_34 ?_
      refine gd_anyI (fun zz zzr => ?_)
      exact gd_ireturn hC hr rfl hlk dL_cell_35 (by decide) ⟨zz, zzr, rfl, rfl⟩
  have hg2 := hg h5 s.heap [] _ h2 h4 va_S.rf hl
  rw [lg_entry_eq]
  exact hg2
