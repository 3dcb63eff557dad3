section
-- ===== PART A: goes FIRST, ahead of the names: the tables' words, and 'selects' of the private methods out of them =====
/-- a private method of a class that the tables say can be made, by its rows of tables_1 -/
def lw_okq (q : MethodName × Nat) : Prop := (q.1.cls ≠ "java/lang/invoke/MethodHandle" ∧ q.1.cls ≠ "java/lang/invoke/VarHandle") ∧ Cond.instantiable q.1.cls q.2 ∈ tables_1 ∧ Cond.privateMethod q.1 ∈ tables_1 ∧ Cond.instanceMethod q.1 ∈ tables_1
theorem lw_p0 : lw_okq (⟨"java/lang/Throwable", "fillInStackTrace", "(I)Ljava/lang/Throwable;"⟩, 6) := ⟨⟨by decide +kernel, by decide +kernel⟩, List.mem_of_getElem? (i := 210) (by decide +kernel), List.mem_of_getElem? (i := 208) (by decide +kernel), List.mem_of_getElem? (i := 209) (by decide +kernel)⟩
theorem lw_p1 : lw_okq (⟨"Grievancehall", "ownerOn", "(II)I"⟩, 11) := ⟨⟨by decide +kernel, by decide +kernel⟩, List.mem_of_getElem? (i := 19) (by decide +kernel), List.mem_of_getElem? (i := 311) (by decide +kernel), List.mem_of_getElem? (i := 312) (by decide +kernel)⟩
theorem lw_p2 : lw_okq (⟨"Grievancehall", "typedKind", "()I"⟩, 11) := ⟨⟨by decide +kernel, by decide +kernel⟩, List.mem_of_getElem? (i := 19) (by decide +kernel), List.mem_of_getElem? (i := 330) (by decide +kernel), List.mem_of_getElem? (i := 331) (by decide +kernel)⟩
theorem lw_p3 : lw_okq (⟨"Grievancehall", "isTyped", "(Ljava/lang/String;)Z"⟩, 11) := ⟨⟨by decide +kernel, by decide +kernel⟩, List.mem_of_getElem? (i := 19) (by decide +kernel), List.mem_of_getElem? (i := 341) (by decide +kernel), List.mem_of_getElem? (i := 342) (by decide +kernel)⟩
theorem lw_p4 : lw_okq (⟨"Grievancehall", "complaintToJoin", "(I)I"⟩, 11) := ⟨⟨by decide +kernel, by decide +kernel⟩, List.mem_of_getElem? (i := 19) (by decide +kernel), List.mem_of_getElem? (i := 438) (by decide +kernel), List.mem_of_getElem? (i := 439) (by decide +kernel)⟩
theorem lw_p5 : lw_okq (⟨"Grievancehall", "beginComplaint", "(I)I"⟩, 11) := ⟨⟨by decide +kernel, by decide +kernel⟩, List.mem_of_getElem? (i := 19) (by decide +kernel), List.mem_of_getElem? (i := 442) (by decide +kernel), List.mem_of_getElem? (i := 443) (by decide +kernel)⟩
theorem lw_p6 : lw_okq (⟨"Grievancehall", "faultOf", "(I)I"⟩, 11) := ⟨⟨by decide +kernel, by decide +kernel⟩, List.mem_of_getElem? (i := 19) (by decide +kernel), List.mem_of_getElem? (i := 487) (by decide +kernel), List.mem_of_getElem? (i := 488) (by decide +kernel)⟩
theorem lw_p7 : lw_okq (⟨"Grievancehall", "failsRule", "(I)Z"⟩, 11) := ⟨⟨by decide +kernel, by decide +kernel⟩, List.mem_of_getElem? (i := 19) (by decide +kernel), List.mem_of_getElem? (i := 491) (by decide +kernel), List.mem_of_getElem? (i := 492) (by decide +kernel)⟩
theorem lw_p8 : lw_okq (⟨"Grievancehall", "isUnequal", "(I)Z"⟩, 11) := ⟨⟨by decide +kernel, by decide +kernel⟩, List.mem_of_getElem? (i := 19) (by decide +kernel), List.mem_of_getElem? (i := 495) (by decide +kernel), List.mem_of_getElem? (i := 496) (by decide +kernel)⟩
theorem lw_p9 : lw_okq (⟨"Grievancehall", "countLikes", "(I)I"⟩, 11) := ⟨⟨by decide +kernel, by decide +kernel⟩, List.mem_of_getElem? (i := 19) (by decide +kernel), List.mem_of_getElem? (i := 499) (by decide +kernel), List.mem_of_getElem? (i := 500) (by decide +kernel)⟩
theorem lw_p10 : lw_okq (⟨"Grievancehall", "isLike", "(II)Z"⟩, 11) := ⟨⟨by decide +kernel, by decide +kernel⟩, List.mem_of_getElem? (i := 19) (by decide +kernel), List.mem_of_getElem? (i := 503) (by decide +kernel), List.mem_of_getElem? (i := 504) (by decide +kernel)⟩
theorem lw_p11 : lw_okq (⟨"Grievancehall", "sumOfLikes", "(I)I"⟩, 11) := ⟨⟨by decide +kernel, by decide +kernel⟩, List.mem_of_getElem? (i := 19) (by decide +kernel), List.mem_of_getElem? (i := 507) (by decide +kernel), List.mem_of_getElem? (i := 508) (by decide +kernel)⟩
theorem lw_p12 : lw_okq (⟨"Grievancehall", "climbFrom", "(II)I"⟩, 11) := ⟨⟨by decide +kernel, by decide +kernel⟩, List.mem_of_getElem? (i := 19) (by decide +kernel), List.mem_of_getElem? (i := 558) (by decide +kernel), List.mem_of_getElem? (i := 559) (by decide +kernel)⟩
theorem lw_p13 : lw_okq (⟨"GrievancehallModel", "asks", "(Z)Z"⟩, 27) := ⟨⟨by decide +kernel, by decide +kernel⟩, List.mem_of_getElem? (i := 590) (by decide +kernel), List.mem_of_getElem? (i := 691) (by decide +kernel), List.mem_of_getElem? (i := 692) (by decide +kernel)⟩
theorem lw_p14 : lw_okq (⟨"GrievancehallModel", "fails", "(I)I"⟩, 27) := ⟨⟨by decide +kernel, by decide +kernel⟩, List.mem_of_getElem? (i := 590) (by decide +kernel), List.mem_of_getElem? (i := 695) (by decide +kernel), List.mem_of_getElem? (i := 696) (by decide +kernel)⟩
theorem lw_p15 : lw_okq (⟨"GrievancehallModel", "isOffice", "(I)Z"⟩, 27) := ⟨⟨by decide +kernel, by decide +kernel⟩, List.mem_of_getElem? (i := 590) (by decide +kernel), List.mem_of_getElem? (i := 703) (by decide +kernel), List.mem_of_getElem? (i := 704) (by decide +kernel)⟩
def lw_privs_1 : List (MethodName × Nat) := [(⟨"java/lang/Throwable", "fillInStackTrace", "(I)Ljava/lang/Throwable;"⟩, 6), (⟨"Grievancehall", "ownerOn", "(II)I"⟩, 11), (⟨"Grievancehall", "typedKind", "()I"⟩, 11), (⟨"Grievancehall", "isTyped", "(Ljava/lang/String;)Z"⟩, 11), (⟨"Grievancehall", "complaintToJoin", "(I)I"⟩, 11), (⟨"Grievancehall", "beginComplaint", "(I)I"⟩, 11), (⟨"Grievancehall", "faultOf", "(I)I"⟩, 11), (⟨"Grievancehall", "failsRule", "(I)Z"⟩, 11), (⟨"Grievancehall", "isUnequal", "(I)Z"⟩, 11), (⟨"Grievancehall", "countLikes", "(I)I"⟩, 11), (⟨"Grievancehall", "isLike", "(II)Z"⟩, 11), (⟨"Grievancehall", "sumOfLikes", "(I)I"⟩, 11), (⟨"Grievancehall", "climbFrom", "(II)I"⟩, 11), (⟨"GrievancehallModel", "asks", "(Z)Z"⟩, 27), (⟨"GrievancehallModel", "fails", "(I)I"⟩, 27), (⟨"GrievancehallModel", "isOffice", "(I)Z"⟩, 27)]
theorem lw_r1 : ∀ q ∈ lw_privs_1, lw_okq q := List.forall_mem_cons.mpr ⟨lw_p0, List.forall_mem_cons.mpr ⟨lw_p1, List.forall_mem_cons.mpr ⟨lw_p2, List.forall_mem_cons.mpr ⟨lw_p3, List.forall_mem_cons.mpr ⟨lw_p4, List.forall_mem_cons.mpr ⟨lw_p5, List.forall_mem_cons.mpr ⟨lw_p6, List.forall_mem_cons.mpr ⟨lw_p7, List.forall_mem_cons.mpr ⟨lw_p8, List.forall_mem_cons.mpr ⟨lw_p9, List.forall_mem_cons.mpr ⟨lw_p10, List.forall_mem_cons.mpr ⟨lw_p11, List.forall_mem_cons.mpr ⟨lw_p12, List.forall_mem_cons.mpr ⟨lw_p13, List.forall_mem_cons.mpr ⟨lw_p14, List.forall_mem_cons.mpr ⟨lw_p15, fun _ h => absurd h List.not_mem_nil⟩⟩⟩⟩⟩⟩⟩⟩⟩⟩⟩⟩⟩⟩⟩⟩
theorem lw_p16 : lw_okq (⟨"GrievancehallModel", "whoseOn", "(II)I"⟩, 27) := ⟨⟨by decide +kernel, by decide +kernel⟩, List.mem_of_getElem? (i := 590) (by decide +kernel), List.mem_of_getElem? (i := 715) (by decide +kernel), List.mem_of_getElem? (i := 716) (by decide +kernel)⟩
theorem lw_p17 : lw_okq (⟨"GrievancehallModel", "isTyped", "(I)Z"⟩, 27) := ⟨⟨by decide +kernel, by decide +kernel⟩, List.mem_of_getElem? (i := 590) (by decide +kernel), List.mem_of_getElem? (i := 730) (by decide +kernel), List.mem_of_getElem? (i := 731) (by decide +kernel)⟩
theorem lw_p18 : lw_okq (⟨"GrievancehallModel", "isAct", "(I)Z"⟩, 27) := ⟨⟨by decide +kernel, by decide +kernel⟩, List.mem_of_getElem? (i := 590) (by decide +kernel), List.mem_of_getElem? (i := 738) (by decide +kernel), List.mem_of_getElem? (i := 739) (by decide +kernel)⟩
theorem lw_p19 : lw_okq (⟨"GrievancehallModel", "isThere", "(II)Z"⟩, 27) := ⟨⟨by decide +kernel, by decide +kernel⟩, List.mem_of_getElem? (i := 590) (by decide +kernel), List.mem_of_getElem? (i := 750) (by decide +kernel), List.mem_of_getElem? (i := 751) (by decide +kernel)⟩
theorem lw_p20 : lw_okq (⟨"GrievancehallModel", "barOf", "(II)I"⟩, 27) := ⟨⟨by decide +kernel, by decide +kernel⟩, List.mem_of_getElem? (i := 590) (by decide +kernel), List.mem_of_getElem? (i := 758) (by decide +kernel), List.mem_of_getElem? (i := 759) (by decide +kernel)⟩
theorem lw_p21 : lw_okq (⟨"GrievancehallModel", "complaintOf", "(I)I"⟩, 27) := ⟨⟨by decide +kernel, by decide +kernel⟩, List.mem_of_getElem? (i := 590) (by decide +kernel), List.mem_of_getElem? (i := 766) (by decide +kernel), List.mem_of_getElem? (i := 767) (by decide +kernel)⟩
theorem lw_p22 : lw_okq (⟨"GrievancehallModel", "isComplaint", "(I)Z"⟩, 27) := ⟨⟨by decide +kernel, by decide +kernel⟩, List.mem_of_getElem? (i := 590) (by decide +kernel), List.mem_of_getElem? (i := 774) (by decide +kernel), List.mem_of_getElem? (i := 775) (by decide +kernel)⟩
theorem lw_p23 : lw_okq (⟨"GrievancehallModel", "isOwed", "(I)Z"⟩, 27) := ⟨⟨by decide +kernel, by decide +kernel⟩, List.mem_of_getElem? (i := 590) (by decide +kernel), List.mem_of_getElem? (i := 782) (by decide +kernel), List.mem_of_getElem? (i := 783) (by decide +kernel)⟩
theorem lw_p24 : lw_okq (⟨"GrievancehallModel", "faultOf", "(I)I"⟩, 27) := ⟨⟨by decide +kernel, by decide +kernel⟩, List.mem_of_getElem? (i := 590) (by decide +kernel), List.mem_of_getElem? (i := 794) (by decide +kernel), List.mem_of_getElem? (i := 795) (by decide +kernel)⟩
theorem lw_p25 : lw_okq (⟨"GrievancehallModel", "doesFail", "(I)Z"⟩, 27) := ⟨⟨by decide +kernel, by decide +kernel⟩, List.mem_of_getElem? (i := 590) (by decide +kernel), List.mem_of_getElem? (i := 798) (by decide +kernel), List.mem_of_getElem? (i := 799) (by decide +kernel)⟩
theorem lw_p26 : lw_okq (⟨"GrievancehallModel", "isUnequal", "(I)Z"⟩, 27) := ⟨⟨by decide +kernel, by decide +kernel⟩, List.mem_of_getElem? (i := 590) (by decide +kernel), List.mem_of_getElem? (i := 802) (by decide +kernel), List.mem_of_getElem? (i := 803) (by decide +kernel)⟩
theorem lw_p27 : lw_okq (⟨"GrievancehallModel", "likesOf", "(I)I"⟩, 27) := ⟨⟨by decide +kernel, by decide +kernel⟩, List.mem_of_getElem? (i := 590) (by decide +kernel), List.mem_of_getElem? (i := 806) (by decide +kernel), List.mem_of_getElem? (i := 807) (by decide +kernel)⟩
theorem lw_p28 : lw_okq (⟨"GrievancehallModel", "areLike", "(II)Z"⟩, 27) := ⟨⟨by decide +kernel, by decide +kernel⟩, List.mem_of_getElem? (i := 590) (by decide +kernel), List.mem_of_getElem? (i := 810) (by decide +kernel), List.mem_of_getElem? (i := 811) (by decide +kernel)⟩
def lw_privs_2 : List (MethodName × Nat) := [(⟨"GrievancehallModel", "whoseOn", "(II)I"⟩, 27), (⟨"GrievancehallModel", "isTyped", "(I)Z"⟩, 27), (⟨"GrievancehallModel", "isAct", "(I)Z"⟩, 27), (⟨"GrievancehallModel", "isThere", "(II)Z"⟩, 27), (⟨"GrievancehallModel", "barOf", "(II)I"⟩, 27), (⟨"GrievancehallModel", "complaintOf", "(I)I"⟩, 27), (⟨"GrievancehallModel", "isComplaint", "(I)Z"⟩, 27), (⟨"GrievancehallModel", "isOwed", "(I)Z"⟩, 27), (⟨"GrievancehallModel", "faultOf", "(I)I"⟩, 27), (⟨"GrievancehallModel", "doesFail", "(I)Z"⟩, 27), (⟨"GrievancehallModel", "isUnequal", "(I)Z"⟩, 27), (⟨"GrievancehallModel", "likesOf", "(I)I"⟩, 27), (⟨"GrievancehallModel", "areLike", "(II)Z"⟩, 27)]
theorem lw_r2 : ∀ q ∈ lw_privs_2, lw_okq q := List.forall_mem_cons.mpr ⟨lw_p16, List.forall_mem_cons.mpr ⟨lw_p17, List.forall_mem_cons.mpr ⟨lw_p18, List.forall_mem_cons.mpr ⟨lw_p19, List.forall_mem_cons.mpr ⟨lw_p20, List.forall_mem_cons.mpr ⟨lw_p21, List.forall_mem_cons.mpr ⟨lw_p22, List.forall_mem_cons.mpr ⟨lw_p23, List.forall_mem_cons.mpr ⟨lw_p24, List.forall_mem_cons.mpr ⟨lw_p25, List.forall_mem_cons.mpr ⟨lw_p26, List.forall_mem_cons.mpr ⟨lw_p27, List.forall_mem_cons.mpr ⟨lw_p28, fun _ h => absurd h List.not_mem_nil⟩⟩⟩⟩⟩⟩⟩⟩⟩⟩⟩⟩⟩
def lw_privs : List (MethodName × Nat) := lw_privs_1 ++ (lw_privs_2)
def lw_tbl : List Cond := k2_sels lw_privs ++ tables_1
theorem lw_privs_ok : ∀ q ∈ lw_privs, lw_okq q := by
  show ∀ q ∈ lw_privs_1 ++ (lw_privs_2), lw_okq q
  exact List.forall_mem_append.mpr ⟨lw_r1, lw_r2⟩
/-! ===== BEGIN words of one list among another's, by their places ===== -/
theorem goodIn_r {big : List Cond} (ws : List Cond) (ps : List Nat) (hp : ws = ps.filterMap (fun i => big[i]?)) (h : ws.all goodWord = true) : GoodIn big ws := by
  intro w hw
  have h1 := List.all_eq_true.mp h w hw
  rw [hp] at hw
  obtain ⟨i, -, hi⟩ := List.mem_filterMap.mp hw
  have hm : w ∈ big := by first | exact List.mem_of_getElem? hi | exact List.getElem?_mem hi
  exact ⟨hm, good_of_word h1⟩
theorem goodIn_app {big a b : List Cond} (ha : GoodIn big a) (hb : GoodIn big b) : GoodIn big (a ++ b) := fun w h => (List.mem_append.mp h).elim (ha w) (hb w)
theorem goodIn_ca {big a b : List Cond} {c : Cond} (ha : GoodIn big (c :: a)) (hb : GoodIn big b) : GoodIn big (c :: (a ++ b)) := fun w h => (List.mem_cons.mp h).elim (fun e => ha w (List.mem_cons.mpr (Or.inl e))) (fun h => (List.mem_append.mp h).elim (fun h => ha w (List.mem_cons.mpr (Or.inr h))) (hb w))
theorem goodIn_sub {big ws : List Cond} (hm : ∀ w ∈ ws, w ∈ big) (h : ws.all goodWord = true) : GoodIn big ws := fun w hw => ⟨hm w hw, good_of_word (List.all_eq_true.mp h w hw)⟩
/-! ===== END ===== -/

/-! ===== BEGIN exceptions that leave a method, and their catching by the caller (launches without stack traces) ===== -/
section VXA
/-! The laws vx_back, vx_callV, vx_callS, vx_callSW, vx_throw0, vx_throwS follow proofs of the library, with one case more: JvmDerived/Free/Laws.lean (Back.of_free), Shelf42/LK1.lean (callV, callS), Shelf/KitTraced.lean (throwNew0V, throwNewS). -/
/-- where a method has thrown q: the class by its name, the cell, what was written, the world -/
def vx_T (XC : String → State → State → Prop) (st : State) (q : Addr) (t : State) (mc ms : Nat) (free : Addr → Prop) : Prop :=
  ∃ (E : String) (ce : Cell) (L : List Loc), XC E st t ∧ t.heap[q]? = some ce ∧ ce.vm = .none ∧ st.vm.findClass E = some ce.cls ∧ st.WarmedH t.vm ∧ st.sameButNew ({ t with vm := st.vm } : State) L mc ms ∧ ∀ z ∈ L, free z.base
def vx_Q (Qc : Array Value → State → Outcome → State → Prop) (XC : String → State → State → Prop) (mc ms : Nat) (free : Addr → Prop) : Array Value → State → Outcome → State → Prop := fun a st o t =>
  (Qc a st o t ∧ ∃ L, FrameEnd st o t L mc ms ∧ ∀ q ∈ L, free q.base) ∨ ∃ q, o = .threw q ∧ vx_T XC st q t mc ms free
/-- a callee that returns or throws -/
def vx_Met (l : Launch) (y : MethodName) (ws : List Cond) (rm : Room) (Pc : Array Value → State → Prop) (Qc : Array Value → State → Outcome → State → Prop) (XC : String → State → State → Prop) (mc ms : Nat) (free : Addr → Prop) : Prop :=
  MetFree l y (headSpec ws rm) Pc (fun _ _ _ _ _ => True) (vx_Q Qc XC mc ms free)
def vx_Post (XC : String → State → State → Prop) (mc ms : Nat) (free : Addr → Prop) : Pt → Array Value → Addr → Pt → Prop := fun A a q B =>
  ∃ (g : JFrame) (mk : MethodId) (t : State) (L : List Loc) (E : String) (ce : Cell), B.U.heap = t.heap ∧ B.U.vm = t.vm ∧ XC E (A.U.calling g mk a) t ∧ t.heap[q]? = some ce ∧ ce.vm = .none ∧ A.U.vm.findClass E = some ce.cls ∧ B.locs = A.locs ++ L ∧ (∀ z ∈ L, free z.base) ∧ B.cells = A.cells + mc ∧ B.slots = A.slots + ms
def vx_Back (l : Launch) (R : Room) (p : Program) (e : Env) (below : List Frame) (s : State) (sargs : Array Value) (y : MethodName) (len W9 : Nat)
    (Pre : Pt → Array Value → Prop) (Post : Pt → Array Value → Option Value → Pt → Prop) (PostX : Pt → Array Value → Addr → Pt → Prop) : Prop :=
  ∀ (m : MethodId) (meth : Method) (c : Code) (A : Pt) (g : JFrame) (ig : Instr) (mk : MethodId) (a : Array Value),
    Stand p l e R s m sargs below meth c A.U A.locs A.cells A.slots → g.method = m → g.locals.size = c.maxLocals → decode c.code g.pc = .ok (ig, len) →
    2 * g.monitorRoom + (g.stack.map fun v => v.category).sum ≤ W9 → A.U.methodNamed? y = some mk → Pre A a →
    (∃ (v : Option Value) (B : Pt), Stand p l e R s m sargs below meth c B.U B.locs B.cells B.slots ∧ Post A a v B ∧
      Steps p.tables e below (doInvoke e (A.U.setTop g) [] mk a).1 (B.U.setTop { g with pc := g.pc + len, stack := v.toList ++ g.stack })) ∨
    (∃ (q : Addr) (B : Pt), Stand p l e R s m sargs below meth c B.U B.locs B.cells B.slots ∧ PostX A a q B ∧
      Steps p.tables e below (doInvoke e (A.U.setTop g) [] mk a).1 ((B.U.setTop g).pushFrame (.throwing q)))
section Payer
variable {l : Launch} {R : Room} {p : Program} {e : Env} {below : List Frame} {s : State} {sargs : Array Value} {y : MethodName} {len W9 : Nat}
theorem vx_back {ws : List Cond} {rm : Room} {Pc : Array Value → State → Prop} {Qc : Array Value → State → Outcome → State → Prop} {XC : String → State → State → Prop} {mc ms : Nat} {free : Addr → Prop} {bytes : ByteArray} {maxL : Nat} {ret : Option FieldType}
    (hM : vx_Met l y ws rm Pc Qc XC mc ms free) (hblind : FrameBlind Pc) (hrc : rm.cells = mc) (hrs : rm.slots = ms)
    (hframes : rm.frames + 1 ≤ R.frames) (hlocals : W9 + (maxL + 11) + rm.locals ≤ R.locals)
    (hws : ∀ w ∈ ws, ∀ a' U, s.WarmedH U.vm → w.before a' U = true) (hcode : Cond.code y bytes maxL ret ∈ ws) (hinit : ∀ a' U, s.WarmedH U.vm → (Cond.initialized y.cls).before a' U = true) :
    vx_Back l R p e below s sargs y len W9 (PreOf R mc ms Pc) (PostOf Qc mc ms free) (vx_Post XC mc ms free) := by
  intro m meth c A g ig mk a X hg hsize hdg hW hn hp
  have h1 : (headSpec ws rm).pre.before a A.U = true := atoms_intro fun w hw => hws w hw _ _ X.warmed
  have h2 : (Cond.code y bytes maxL ret).before a A.U = true := hws _ hcode _ _ X.warmed
  have h3 : (Cond.initialized y.cls).before a A.U = true := hinit _ _ X.warmed
  have h4 : A.cells + (headSpec ws rm).room.cells ≤ R.cells := by rw [show (headSpec ws rm).room.cells = mc from hrc]; exact hp.1
  have h5 : A.slots + (headSpec ws rm).room.slots ≤ R.slots := by rw [show (headSpec ws rm).room.slots = ms from hrs]; exact hp.2.1
  have hPc : Pc a (A.U.calling g mk a) := hblind _ _ _ _ hp.2.2
  obtain ⟨U, Ls, c0, s0⟩ := A
  dsimp only [Pt.U, Pt.locs, Pt.cells, Pt.slots] at h1 h2 h3 h4 h5 X hn hPc ⊢
  obtain ⟨methY, cY, hmY, hcY, -, hlY, -, -, -, -⟩ := Cond.code_spec hn h2
  obtain ⟨kY, hkY, -⟩ := className_of_methodNamed hn
  have hinitY : kY.init = .initialized := Cond.initialized_spec (findClass_of_methodNamed hn) hkY h3
  have h : At U g.method c below := by rw [hg]; exact X.here
  have hlocals9 : W9 + (maxL + 11) + (headSpec ws rm).room.locals ≤ R.locals := hlocals
  have happ : (headSpec ws rm).appliesLoose y e.platform (U.calling g mk a) = true :=
    Spec.appliesLoose_calling (g := g) h hdg hn hkY hinitY
      (X.room_calling (g := g) (R' := (headSpec ws rm).room) hsize hmY hcY hframes (by rw [hlY]; omega) h4 h5) h1
  obtain ⟨mid, hmid⟩ := h.above
  have hfr : (U.setTop g).frames = (.java g :: mid) ++ below := by rw [State.frames_setTop' g h.top, hmid]; rfl
  obtain ⟨o, s₂, hsteps, -, hend, hq⟩ := Steps.callFree hM p X.admits X.cas X.clock (acts := []) hfr happ hPc trivial
  have hq' : vx_Q Qc XC mc ms free a (U.calling g mk a) o s₂ := hq
  rw [State.frames_setTop' g h.top] at hend
  obtain ⟨g₀, hg0⟩ := Option.isSome_iff_exists.mp h.top
  obtain ⟨r, hr⟩ := State.topJava?_eq_some.mp hg0
  have hr' : (({ U with heap := s₂.heap, slotsUsed := s₂.slotsUsed } : State).setVm s₂.vm).frames = .java g₀ :: r := hr
  rcases hq' with ⟨hqc, L, hfe, hL⟩ | ⟨q, rfl, E, ce, L, hx, hce, hcv, hcl, hW₂, hsm, hL⟩
  · obtain ⟨⟨v, rfl⟩, hW₂, e2, q2, q3, q4, q5, q6⟩ := id hfe
    have e3 : s₂ = ({ (U.calling g mk a).setFrames s₂.frames with heap := s₂.heap, slotsUsed := s₂.slotsUsed } : State).setVm s₂.vm := by
      have : s₂ = ({ s₂ with vm := (U.calling g mk a).vm } : State).setVm s₂.vm := rfl
      rw [e2] at this
      exact this
    obtain ⟨c₂, i₂, len₂, hc₂, hd₂, hf₂⟩ := hend
    have hW' : U.WarmedH s₂.vm := hW₂
    have hcc : c₂ = c := by
      have h1 : s₂.code? g.method = U.code? g.method := by
        rw [State.code?_eq, State.code?_eq, hW'.alike.method?]
      exact Option.some.inj (hc₂.symm.trans (h1.trans h.code))
    subst hcc
    have hlen : len₂ = len := by rw [hdg] at hd₂; cases hd₂; rfl
    subst hlen
    have hs₂ : s₂ = (({ U with heap := s₂.heap, slotsUsed := s₂.slotsUsed } : State).setVm s₂.vm).setTop { g with pc := g.pc + len₂, stack := v.toList ++ g.stack } := by
      refine e3.trans ?_
      rw [hf₂, State.calling_eq h.top, State.setFrames_setFrames, State.setTop_of_frames _ hr', hr]
      rfl
    have hsame : U.sameButNew ({ U with heap := s₂.heap, slotsUsed := s₂.slotsUsed } : State) L mc ms := by
      refine ⟨?_, q2, q3, q4, q5, q6⟩
      obtain ⟨t, ht, -⟩ := State.frames_cons hr
      show ({ U with heap := s₂.heap, slotsUsed := s₂.slotsUsed } : State) = { U.setFrames U.frames with heap := s₂.heap, slotsUsed := s₂.slotsUsed }
      rw [State.setFrames_self ht]
    subst hg
    refine Or.inl ⟨v, ⟨(({ U with heap := s₂.heap, slotsUsed := s₂.slotsUsed } : State).setVm s₂.vm), Ls ++ L, c0 + mc, s0 + ms⟩,
      ⟨X.admits, X.cas, X.clock, X.frames, X.room, X.hears, X.method, X.code, (X.here.setHeapUsed s₂.heap s₂.slotsUsed).setVm hW'.alike, X.tail, State.WarmedH.trans X.warmed hW', X.limits, X.bytes, X.same.trans (hsame.setVm s.vm)⟩,
      ⟨g, mk, s₂, L, rfl, rfl, hqc, rfl, hL, rfl, rfl⟩, ?_⟩
    show Steps p.tables e below _ ((({ U with heap := s₂.heap, slotsUsed := s₂.slotsUsed } : State).setVm s₂.vm).setTop { g with pc := g.pc + len₂, stack := v.toList ++ g.stack })
    rw [← hs₂]
    exact hsteps
  · obtain ⟨e2, q2, q3, q4, q5, q6⟩ := id hsm
    have e3 : s₂ = ({ (U.calling g mk a).setFrames s₂.frames with heap := s₂.heap, slotsUsed := s₂.slotsUsed } : State).setVm s₂.vm := by
      have : s₂ = ({ s₂ with vm := (U.calling g mk a).vm } : State).setVm s₂.vm := rfl
      rw [e2] at this
      exact this
    have hf₂ : s₂.frames = .throwing q :: .java g :: U.frames.tail := hend
    have hW' : U.WarmedH s₂.vm := hW₂
    have hs₂ : s₂ = ((({ U with heap := s₂.heap, slotsUsed := s₂.slotsUsed } : State).setVm s₂.vm).setTop g).pushFrame (.throwing q) := by
      refine e3.trans ?_
      rw [hf₂, State.calling_eq h.top, State.setFrames_setFrames, State.pushFrame, State.frames_setTop _ hr', State.setTop_of_frames _ hr', State.setFrames_setFrames, hr]
      rfl
    have hsame : U.sameButNew ({ U with heap := s₂.heap, slotsUsed := s₂.slotsUsed } : State) L mc ms := by
      refine ⟨?_, q2, q3, q4, q5, q6⟩
      obtain ⟨t, ht, -⟩ := State.frames_cons hr
      show ({ U with heap := s₂.heap, slotsUsed := s₂.slotsUsed } : State) = { U.setFrames U.frames with heap := s₂.heap, slotsUsed := s₂.slotsUsed }
      rw [State.setFrames_self ht]
    subst hg
    refine Or.inr ⟨q, ⟨(({ U with heap := s₂.heap, slotsUsed := s₂.slotsUsed } : State).setVm s₂.vm), Ls ++ L, c0 + mc, s0 + ms⟩,
      ⟨X.admits, X.cas, X.clock, X.frames, X.room, X.hears, X.method, X.code, (X.here.setHeapUsed s₂.heap s₂.slotsUsed).setVm hW'.alike, X.tail, State.WarmedH.trans X.warmed hW', X.limits, X.bytes, X.same.trans (hsame.setVm s.vm)⟩,
      ⟨g, mk, s₂, L, E, ce, rfl, rfl, hx, hce, hcv, hcl, rfl, hL, rfl, rfl⟩, ?_⟩
    show Steps p.tables e below _ (((({ U with heap := s₂.heap, slotsUsed := s₂.slotsUsed } : State).setVm s₂.vm).setTop g).pushFrame (.throwing q))
    rw [← hs₂]
    exact hsteps
end Payer
section Calls
variable {p : Program} {l : Launch} {e : Env} {R : Room} {s : State} {m : MethodId} {args : Array Value} {below : List Frame} {meth : Method} {c : Code} {T : State} {locs : List Loc} {cells slots : Nat}
theorem vx_callV (X : Stand p l e R s m args below meth c T locs cells slots) (hexec : p.tables.exec = Jvm.exec) {own C : String} {index : Nat} {y : MethodName} {bytes : ByteArray} {maxL : Nat} {ret : Option FieldType}
    (hown : s.vm.findClass own = some m.cls) (hlink : (Cond.methodLink own index y).before args s = true) (hinst : (Cond.instanceMethod y).before args s = true) (hsel : (Cond.selects C y y).before args s = true)
    (hcode : (Cond.code y bytes maxL ret).before args s = true) (hy : y.cls ≠ "java/lang/invoke/MethodHandle" ∧ y.cls ≠ "java/lang/invoke/VarHandle")
    {W9 : Nat} {Pre : Pt → Array Value → Prop} {Post : Pt → Array Value → Option Value → Pt → Prop} {PostX : Pt → Array Value → Addr → Pt → Prop} (hK : vx_Back l R p e below s args y 3 W9 Pre Post PostX)
    {b : Addr} {cellB : Cell} (hcell : T.heap[b]? = some cellB) (hobj : cellB.vm.isStatics = false) (hcls : s.vm.findClass C = some cellB.cls)
    {g : JFrame} (hg : g.method = m) (hsize : g.locals.size = c.maxLocals) {argsL rest : List Value} (hlen : ∀ sig, parseMethodDescriptor y.desc = some sig → argsL.length = sig.parameters.length)
    (hstack : g.stack = argsL.reverse ++ .ref b :: rest) (hW : 2 * g.monitorRoom + (rest.map fun v => v.category).sum ≤ W9) (hdg : decode c.code g.pc = .ok (.invokevirtual index, 3))
    (hpre : ∀ vm₁, s.WarmedH vm₁ → Pre ⟨T.setVm vm₁, locs, cells, slots⟩ (Value.ref b :: argsL).toArray) :
    (∃ (v : Option Value) (vm₁ : Vm) (B : Pt), s.WarmedH vm₁ ∧ Stand p l e R s m args below meth c B.U B.locs B.cells B.slots ∧ Post ⟨T.setVm vm₁, locs, cells, slots⟩ (Value.ref b :: argsL).toArray v B ∧
      ∀ target, Steps p.tables e below (B.U.setTop { g with pc := g.pc + 3, stack := v.toList ++ rest }) target → Steps p.tables e below (T.setTop g) target) ∨
    (∃ (q : Addr) (vm₁ : Vm) (B : Pt), s.WarmedH vm₁ ∧ Stand p l e R s m args below meth c B.U B.locs B.cells B.slots ∧ PostX ⟨T.setVm vm₁, locs, cells, slots⟩ (Value.ref b :: argsL).toArray q B ∧
      Steps p.tables e below (T.setTop g) ((B.U.setTop { g with stack := rest }).pushFrame (.throwing q))) := by
  obtain ⟨mk, methM, hnamed, hmethM, hstM, habM⟩ := Cond.instanceMethod_spec hinst
  obtain ⟨methM', cM, hmethM', -, -, -, -, -, -, hsigM⟩ := Cond.code_spec hnamed hcode
  cases hmethM.symm.trans hmethM'
  obtain ⟨c2, r2, m2, q1, q2, q3, q4, kP, hkP, hkPi⟩ := Cond.selects_spec hsel
  cases hcls.symm.trans q1
  cases (State.methodFound?_of_named hnamed hy).symm.trans q2
  cases hnamed.symm.trans q3
  have hselP : selectMethod e.platform s.vm cellB.cls mk = .method mk := by rw [Launch.admits_selectMethod X.admits]; exact q4
  obtain ⟨vm₁, X₁, hstep₁⟩ := X.invokevirtual hexec hown hlink hnamed hmethM hstM hkP hkPi hy (a := b) (cell := cellB) hcell
    (fun z h => by rw [h] at hobj; cases hobj) hselP hmethM habM hkP hkPi (g := g) hg (argsL := argsL) (rest := rest) (hlen _ hsigM) hstack hdg
  rcases hK m meth c ⟨T.setVm vm₁, locs, cells, slots⟩ { g with stack := rest } (.invokevirtual index) mk (Value.ref b :: argsL).toArray X₁ hg hsize hdg hW (X₁.named hnamed) (hpre vm₁ X₁.warmed) with ⟨v, B, X', hpost, hsteps⟩ | ⟨q, B, X', hpost, hsteps⟩
  · exact Or.inl ⟨v, vm₁, B, X₁.warmed, X', hpost, fun target h => hstep₁ _ fun acts => by rw [doInvoke_state]; exact hsteps.trans h⟩
  · exact Or.inr ⟨q, vm₁, B, X₁.warmed, X', hpost, hstep₁ _ fun acts => by rw [doInvoke_state]; exact hsteps⟩
theorem vx_callS (X : Stand p l e R s m args below meth c T locs cells slots) (hexec : p.tables.exec = Jvm.exec) {own : String} {index : Nat} {y : MethodName} {bytes : ByteArray} {maxL : Nat} {ret : Option FieldType}
    (hown : s.vm.findClass own = some m.cls) (hlink : (Cond.methodLink own index y).before args s = true) (hstat : (Cond.static y).before args s = true) (hinit : (Cond.initialized y.cls).before args s = true)
    (hcode : (Cond.code y bytes maxL ret).before args s = true) (hy : y.cls ≠ "java/lang/invoke/MethodHandle" ∧ y.cls ≠ "java/lang/invoke/VarHandle")
    {W9 : Nat} {Pre : Pt → Array Value → Prop} {Post : Pt → Array Value → Option Value → Pt → Prop} {PostX : Pt → Array Value → Addr → Pt → Prop} (hK : vx_Back l R p e below s args y 3 W9 Pre Post PostX)
    {g : JFrame} (hg : g.method = m) (hsize : g.locals.size = c.maxLocals) {argsL rest : List Value} (hlen : ∀ sig, parseMethodDescriptor y.desc = some sig → argsL.length = sig.parameters.length)
    (hstack : g.stack = argsL.reverse ++ rest) (hW : 2 * g.monitorRoom + (rest.map fun v => v.category).sum ≤ W9) (hdg : decode c.code g.pc = .ok (.invokestatic index, 3))
    (hpre : ∀ vm₁, s.WarmedH vm₁ → Pre ⟨T.setVm vm₁, locs, cells, slots⟩ argsL.toArray) :
    (∃ (v : Option Value) (vm₁ : Vm) (B : Pt), s.WarmedH vm₁ ∧ Stand p l e R s m args below meth c B.U B.locs B.cells B.slots ∧ Post ⟨T.setVm vm₁, locs, cells, slots⟩ argsL.toArray v B ∧
      ∀ target, Steps p.tables e below (B.U.setTop { g with pc := g.pc + 3, stack := v.toList ++ rest }) target → Steps p.tables e below (T.setTop g) target) ∨
    (∃ (q : Addr) (vm₁ : Vm) (B : Pt), s.WarmedH vm₁ ∧ Stand p l e R s m args below meth c B.U B.locs B.cells B.slots ∧ PostX ⟨T.setVm vm₁, locs, cells, slots⟩ argsL.toArray q B ∧
      Steps p.tables e below (T.setTop g) ((B.U.setTop { g with stack := rest }).pushFrame (.throwing q))) := by
  obtain ⟨mk, hnamed⟩ := Cond.code_named hcode
  obtain ⟨methM, cM, hmethM, -, -, -, -, -, -, hsigM⟩ := Cond.code_spec hnamed hcode
  have hstatic : methM.isStatic = true := Cond.static_spec hnamed hmethM hstat
  obtain ⟨kP, hkP, -⟩ := className_of_methodNamed hnamed
  have hinitP : kP.init = .initialized := Cond.initialized_spec (findClass_of_methodNamed hnamed) hkP hinit
  obtain ⟨vm₁, X₁, hstep₁⟩ := X.invokestatic hexec hown hlink hnamed hmethM hstatic hkP hinitP hy (g := g) hg (argsL := argsL) (rest := rest) (hlen _ hsigM) hstack hdg
  rcases hK m meth c ⟨T.setVm vm₁, locs, cells, slots⟩ { g with stack := rest } (.invokestatic index) mk argsL.toArray X₁ hg hsize hdg hW (X₁.named hnamed) (hpre vm₁ X₁.warmed) with ⟨v, B, X', hpost, hsteps⟩ | ⟨q, B, X', hpost, hsteps⟩
  · exact Or.inl ⟨v, vm₁, B, X₁.warmed, X', hpost, fun target h => hstep₁ _ fun acts => by rw [doInvoke_state]; exact hsteps.trans h⟩
  · exact Or.inr ⟨q, vm₁, B, X₁.warmed, X', hpost, hstep₁ _ fun acts => by rw [doInvoke_state]; exact hsteps⟩
end Calls
theorem vx_cls {s : State} {T : State} {vm₁ : Vm} {E : String} {k : ClassId} (hW : s.WarmedH vm₁) (h : (T.setVm vm₁).vm.findClass E = some k) : s.vm.findClass E = some k := by
  have h1 : vm₁.findClass E = some k := h
  rw [hW.alike.findClass] at h1
  exact h1
/-- the method's frame g, with q thrown over it -/
def vx_W (p : Program) (l : Launch) (e : Env) (R : Room) (s : State) (m : MethodId) (args : Array Value) (below : List Frame) (meth : Method) (c : Code) (H : Heap) (locs : List Loc) (cells slots : Nat) (Q : State → Prop) (g : JFrame) (q : Addr) : Prop :=
  ∀ T : State, T.heap = H → Stand p l e R s m args below meth c T locs cells slots → ∃ t, Steps p.tables e below ((T.setTop g).pushFrame (.throwing q)) t ∧ Q t
def vx_Run (p : Program) (l : Launch) (e : Env) (R : Room) (s : State) (m : MethodId) (args : Array Value) (below : List Frame) (meth : Method) (c : Code) (H : Heap) (locs : List Loc) (cells slots mc ms : Nat) (g : JFrame) (rest : List Value) (Qa : State → Outcome → State → Prop) (XC : String → State → State → Prop) (free : Addr → Prop) : Prop :=
  ∀ T : State, T.heap = H → Stand p l e R s m args below meth c T locs cells slots →
    (∃ (v : Option Value) (st₀ t T' : State) (L : List Loc), st₀.heap = H ∧ Stand p l e R s m args below meth c T' (locs ++ L) (cells + mc) (slots + ms) ∧ (∀ q ∈ L, free q.base) ∧ T'.heap = t.heap ∧ T'.vm = t.vm ∧ Qa st₀ (.returned v) t ∧
      Goes p e below T g T' { g with pc := g.pc + 3, stack := v.toList ++ rest }) ∨
    (∃ (q : Addr) (st₀ t T' : State) (L : List Loc) (E : String) (ce : Cell), st₀.heap = H ∧ Stand p l e R s m args below meth c T' (locs ++ L) (cells + mc) (slots + ms) ∧ (∀ z ∈ L, free z.base) ∧ T'.heap = t.heap ∧ T'.vm = t.vm ∧ XC E st₀ t ∧ t.heap[q]? = some ce ∧ ce.vm = .none ∧ s.vm.findClass E = some ce.cls ∧
      Steps p.tables e below (T.setTop g) ((T'.setTop { g with stack := rest }).pushFrame (.throwing q)))
def vx_X {S : Type} (px : S → Prop) (B : String → S → State → Prop) (A : Nat → Prop) : String → State → State → Prop := fun E st t => ∃ u : S, px u ∧ B E u t ∧ va_F A st t
section Runs
variable {p : Program} {l : Launch} {e : Env} {R : Room} {s : State} {m : MethodId} {args : Array Value} {below : List Frame} {meth : Method} {c : Code} {H : Heap} {locs : List Loc} {cells slots : Nat}
variable {y : MethodName} {bytes cc : ByteArray} {maxL nL mc ms n index : Nat} {ret : Option FieldType} {ws : List Cond} {rm : Room} {Pc : Array Value → State → Prop} {Qc : Array Value → State → Outcome → State → Prop} {XC : String → State → State → Prop} {free : Addr → Prop} {Ts : List Cond} {own C : String} {b : Addr} {As rest : List Value} {g : JFrame}
theorem vx_callBack (cb : CallB R s args own index y bytes maxL ret ws rm mc ms n) (hM : vx_Met l y ws rm Pc Qc XC mc ms free) (hbl : FrameBlind Pc) : vx_Back l R p e below s args y 3 8 (PreOf R mc ms Pc) (PostOf Qc mc ms free) (vx_Post XC mc ms free) := by
  obtain ⟨hrc, hrs, hfr, hlo, hws, hcw, -, hini, -⟩ := cb
  exact vx_back (bytes := bytes) (maxL := maxL) (ret := ret) hM hbl hrc hrs hfr hlo hws hcw (fun a' U hW => word_at hW (Or.inl (by first | rfl | simp [Cond.onTables, Cond.keeps, Cond.steady])) hini)
theorem vx_runV (S : CallFix p m c cc nL s args Ts own) (hM : vx_Met l y ws rm Pc Qc XC mc ms free) (cw : CallW R s args own C index y bytes maxL ret ws rm mc ms n) (hp : PreV s H C b Pc As)
    (hg : g.method = m) (hn : As.length = n) (hsize : g.locals.size = nL) (hstack : g.stack = As.reverse ++ .ref b :: rest) (hW : 2 * g.monitorRoom + (rest.map fun v => v.category).sum ≤ 8) (hdg : decode cc g.pc = .ok (.invokevirtual index, 3)) (hf : cells + mc ≤ R.cells ∧ slots + ms ≤ R.slots) :
    vx_Run p l e R s m args below meth c H locs cells slots mc ms g rest (Qc (Value.ref b :: As).toArray) XC free := by
  have hK : vx_Back l R p e below s args y 3 8 (PreOf R mc ms Pc) (PostOf Qc mc ms free) (vx_Post XC mc ms free) := vx_callBack cw.1 hM hp.1
  obtain ⟨⟨-, -, -, -, -, -, hcode, -, hy, hlen, hl⟩, hin, hse⟩ := cw
  obtain ⟨hx, hb, hml, ho, -⟩ := S
  obtain ⟨-, ⟨cellB, hcB, hoB, hclB⟩, hPc⟩ := hp
  intro T hT X
  rcases vx_callV X hx (C := C) (bytes := bytes) (maxL := maxL) (ret := ret) ho hl hin hse hcode hy hK (by rw [hT]; exact hcB) hoB hclB hg (hsize.trans hml.symm) (argsL := As) (rest := rest) (fun sig h => hn.trans (hlen sig h)) hstack hW (by rw [hb]; exact hdg)
    (fun vm₁ hW₁ => ⟨hf.1, hf.2, hPc (T.setVm vm₁) hT hW₁⟩) with ⟨v, vm₁, ⟨U', l2, c2, s2⟩, hW₁, X', ⟨g', mk, t, L, e1, e2, hq, h1, hL, h2, h3⟩, st⟩ | ⟨q, vm₁, ⟨U', l2, c2, s2⟩, hW₁, X', ⟨g', mk, t, L, E, ce, e1, e2, hq, hce, hcv, hcl, h1, hL, h2, h3⟩, st⟩
  · dsimp only [Pt.U, Pt.locs, Pt.cells, Pt.slots] at X' e1 e2 h1 h2 h3 st
    subst h1; subst h2; subst h3
    exact Or.inl ⟨v, (T.setVm vm₁).calling g' mk (Value.ref b :: As).toArray, t, U', L, hT, X', hL, e1, e2, hq, st⟩
  · dsimp only [Pt.U, Pt.locs, Pt.cells, Pt.slots] at X' e1 e2 h1 h2 h3 st hcl
    subst h1; subst h2; subst h3
    exact Or.inr ⟨q, (T.setVm vm₁).calling g' mk (Value.ref b :: As).toArray, t, U', L, E, ce, hT, X', hL, e1, e2, hq, hce, hcv, vx_cls hW₁ hcl, st⟩
theorem vx_runS (S : CallFix p m c cc nL s args Ts own) (hM : vx_Met l y ws rm Pc Qc XC mc ms free) (cw : CallB R s args own index y bytes maxL ret ws rm mc ms n ∧ (Cond.static y).before args s = true) (hp : PreS s H Pc As)
    (hg : g.method = m) (hn : As.length = n) (hsize : g.locals.size = nL) (hstack : g.stack = As.reverse ++ rest) (hW : 2 * g.monitorRoom + (rest.map fun v => v.category).sum ≤ 8) (hdg : decode cc g.pc = .ok (.invokestatic index, 3)) (hf : cells + mc ≤ R.cells ∧ slots + ms ≤ R.slots) :
    vx_Run p l e R s m args below meth c H locs cells slots mc ms g rest (Qc As.toArray) XC free := by
  have hK : vx_Back l R p e below s args y 3 8 (PreOf R mc ms Pc) (PostOf Qc mc ms free) (vx_Post XC mc ms free) := vx_callBack cw.1 hM hp.1
  obtain ⟨⟨-, -, -, -, -, -, hcode, hini, hy, hlen, hl⟩, hstt⟩ := cw
  obtain ⟨hx, hb, hml, ho, -⟩ := S
  intro T hT X
  rcases vx_callS X hx (bytes := bytes) (maxL := maxL) (ret := ret) ho hl hstt hini hcode hy hK hg (hsize.trans hml.symm) (argsL := As) (rest := rest) (fun sig h => hn.trans (hlen sig h)) hstack hW (by rw [hb]; exact hdg)
    (fun vm₁ hW₁ => ⟨hf.1, hf.2, hp.2 (T.setVm vm₁) hT hW₁⟩) with ⟨v, vm₁, ⟨U', l2, c2, s2⟩, hW₁, X', ⟨g', mk, t, L, e1, e2, hq, h1, hL, h2, h3⟩, st⟩ | ⟨q, vm₁, ⟨U', l2, c2, s2⟩, hW₁, X', ⟨g', mk, t, L, E, ce, e1, e2, hq, hce, hcv, hcl, h1, hL, h2, h3⟩, st⟩
  · dsimp only [Pt.U, Pt.locs, Pt.cells, Pt.slots] at X' e1 e2 h1 h2 h3 st
    subst h1; subst h2; subst h3
    exact Or.inl ⟨v, (T.setVm vm₁).calling g' mk As.toArray, t, U', L, hT, X', hL, e1, e2, hq, st⟩
  · dsimp only [Pt.U, Pt.locs, Pt.cells, Pt.slots] at X' e1 e2 h1 h2 h3 st hcl
    subst h1; subst h2; subst h3
    exact Or.inr ⟨q, (T.setVm vm₁).calling g' mk As.toArray, t, U', L, E, ce, hT, X', hL, e1, e2, hq, hce, hcv, vx_cls hW₁ hcl, st⟩
end Runs
section Rows
variable {p : Program} {l : Launch} {e : Env} {R : Room} {s : State} {m : MethodId} {args : Array Value} {below : List Frame} {meth : Method} {c : Code} {H : Heap} {locs : List Loc} {cells slots : Nat} {Q : State → Prop}
variable {mc ms : Nat} {free : Addr → Prop} {A0 A1 : Nat → Prop} {H0 : Heap} {a : Array Value} {pc : Nat} {ls : Array Slot} {st0 rest : List Value}
theorem vx_keep {st₀ t T' : State} {L : List Loc} (h0 : st₀.heap = H) (e1 : T'.heap = t.heap) (hS : va_S A0 H0 H locs) (hA : ∀ q, q < H.size → A1 q → A0 q) (hf : ∀ q, free q → A0 q) (hL : ∀ q ∈ L, free q.base) (hF : va_F A1 st₀ t) :
    H.size ≤ T'.heap.size ∧ (∀ q : Nat, q < H.size → ¬ A1 q → T'.heap[q]? = H[q]?) ∧ va_S A0 H0 T'.heap (locs ++ L) := by
  obtain ⟨hz, hk⟩ := hF
  rw [h0] at hz hk
  exact ⟨by rw [e1]; exact hz, fun q h1 h2 => by rw [e1]; exact hk q h1 h2,
    ⟨Nat.le_trans hS.1 (by rw [e1]; exact hz), fun q h1 h2 => by rw [e1, hk q (Nat.lt_of_lt_of_le h1 hS.1) (fun z => h2 (hA q (Nat.lt_of_lt_of_le h1 hS.1) z))]; exact hS.2.1 q h1 h2, fun q hq => by
      rcases List.mem_append.mp hq with h | h
      · exact hS.2.2 q h
      · exact hf _ (hL q h)⟩⟩
theorem vx_calli {S SX : Type} {post : Int32 → S → Prop} {px : SX → Prop} {B : S → State → Prop} {BX : String → SX → State → Prop} {AX : Nat → Prop} (hr : vx_Run p l e R s m args below meth c H locs cells slots mc ms (F0 m pc ls st0) rest (va_Qi post B A1 a) (vx_X px BX AX) free) (hS : va_S A0 H0 H locs) (hA : ∀ q, q < H.size → A1 q → A0 q) (hf : ∀ q, free q → A0 q) (hAX : ∀ q, q < H.size → AX q → A0 q)
    (kx : ∀ (E : String) (ce : Cell) (q9 : Addr) (u : SX) (t : State) (H1 : Heap) (locs1 : List Loc), t.heap = H1 → s.vm.Alike t.vm → px u → BX E u t → H.size ≤ H1.size → (∀ q : Nat, q < H.size → ¬ AX q → H1[q]? = H[q]?) → va_S A0 H0 H1 locs1 → H1[q9]? = some ce → ce.vm = .none → s.vm.findClass E = some ce.cls → vx_W p l e R s m args below meth c H1 locs1 (cells + mc) (slots + ms) Q (F0 m pc ls rest) q9)
    (kk : ∀ (r : Int32) (u : S) (t : State) (H1 : Heap) (locs1 : List Loc), t.heap = H1 → s.vm.Alike t.vm → post r u → B u t → H.size ≤ H1.size → (∀ q : Nat, q < H.size → ¬ A1 q → H1[q]? = H[q]?) → va_S A0 H0 H1 locs1 → W p l e R s m args below meth c H1 locs1 (cells + mc) (slots + ms) Q (F0 m (pc + 3) ls (.int r :: rest))) : W p l e R s m args below meth c H locs cells slots Q (F0 m pc ls st0) := by
  intro T hT X
  rcases hr T hT X with ⟨v, st₀, t, T', L, h0, X', hL, e1, e2, ⟨⟨r, u, hv, hp, hb⟩, hF⟩, st⟩ | ⟨q, st₀, t, T', L, E, ce, h0, X', hL, e1, e2, ⟨u, hp, hb, hF⟩, hce, hcv, hcl, st⟩
  · cases hv
    obtain ⟨k1, k2, k3⟩ := vx_keep h0 e1 hS hA hf hL hF
    obtain ⟨t2, a1, b1⟩ := kk r u t T'.heap (locs ++ L) e1.symm (by rw [← e2]; exact X'.warmed.alike) hp hb k1 k2 k3 T' rfl X'
    exact ⟨t2, st t2 a1, b1⟩
  · obtain ⟨k1, k2, k3⟩ := vx_keep h0 e1 hS hAX hf hL hF
    obtain ⟨t2, a1, b1⟩ := kx E ce q u t T'.heap (locs ++ L) e1.symm (by rw [← e2]; exact X'.warmed.alike) hp hb k1 k2 k3 (by rw [e1]; exact hce) hcv hcl T' rfl X'
    exact ⟨t2, st.trans a1, b1⟩
theorem vx_calll {S SX : Type} {post : Int64 → S → Prop} {px : SX → Prop} {B : S → State → Prop} {BX : String → SX → State → Prop} {AX : Nat → Prop} (hr : vx_Run p l e R s m args below meth c H locs cells slots mc ms (F0 m pc ls st0) rest (va_Ql post B A1 a) (vx_X px BX AX) free) (hS : va_S A0 H0 H locs) (hA : ∀ q, q < H.size → A1 q → A0 q) (hf : ∀ q, free q → A0 q) (hAX : ∀ q, q < H.size → AX q → A0 q)
    (kx : ∀ (E : String) (ce : Cell) (q9 : Addr) (u : SX) (t : State) (H1 : Heap) (locs1 : List Loc), t.heap = H1 → s.vm.Alike t.vm → px u → BX E u t → H.size ≤ H1.size → (∀ q : Nat, q < H.size → ¬ AX q → H1[q]? = H[q]?) → va_S A0 H0 H1 locs1 → H1[q9]? = some ce → ce.vm = .none → s.vm.findClass E = some ce.cls → vx_W p l e R s m args below meth c H1 locs1 (cells + mc) (slots + ms) Q (F0 m pc ls rest) q9)
    (kk : ∀ (r : Int64) (u : S) (t : State) (H1 : Heap) (locs1 : List Loc), t.heap = H1 → s.vm.Alike t.vm → post r u → B u t → H.size ≤ H1.size → (∀ q : Nat, q < H.size → ¬ A1 q → H1[q]? = H[q]?) → va_S A0 H0 H1 locs1 → W p l e R s m args below meth c H1 locs1 (cells + mc) (slots + ms) Q (F0 m (pc + 3) ls (.long r :: rest))) : W p l e R s m args below meth c H locs cells slots Q (F0 m pc ls st0) := by
  intro T hT X
  rcases hr T hT X with ⟨v, st₀, t, T', L, h0, X', hL, e1, e2, ⟨⟨r, u, hv, hp, hb⟩, hF⟩, st⟩ | ⟨q, st₀, t, T', L, E, ce, h0, X', hL, e1, e2, ⟨u, hp, hb, hF⟩, hce, hcv, hcl, st⟩
  · cases hv
    obtain ⟨k1, k2, k3⟩ := vx_keep h0 e1 hS hA hf hL hF
    obtain ⟨t2, a1, b1⟩ := kk r u t T'.heap (locs ++ L) e1.symm (by rw [← e2]; exact X'.warmed.alike) hp hb k1 k2 k3 T' rfl X'
    exact ⟨t2, st t2 a1, b1⟩
  · obtain ⟨k1, k2, k3⟩ := vx_keep h0 e1 hS hAX hf hL hF
    obtain ⟨t2, a1, b1⟩ := kx E ce q u t T'.heap (locs ++ L) e1.symm (by rw [← e2]; exact X'.warmed.alike) hp hb k1 k2 k3 (by rw [e1]; exact hce) hcv hcl T' rfl X'
    exact ⟨t2, st.trans a1, b1⟩
theorem vx_callf {S SX : Type} {post : UInt32 → S → Prop} {px : SX → Prop} {B : S → State → Prop} {BX : String → SX → State → Prop} {AX : Nat → Prop} (hr : vx_Run p l e R s m args below meth c H locs cells slots mc ms (F0 m pc ls st0) rest (va_Qf post B A1 a) (vx_X px BX AX) free) (hS : va_S A0 H0 H locs) (hA : ∀ q, q < H.size → A1 q → A0 q) (hf : ∀ q, free q → A0 q) (hAX : ∀ q, q < H.size → AX q → A0 q)
    (kx : ∀ (E : String) (ce : Cell) (q9 : Addr) (u : SX) (t : State) (H1 : Heap) (locs1 : List Loc), t.heap = H1 → s.vm.Alike t.vm → px u → BX E u t → H.size ≤ H1.size → (∀ q : Nat, q < H.size → ¬ AX q → H1[q]? = H[q]?) → va_S A0 H0 H1 locs1 → H1[q9]? = some ce → ce.vm = .none → s.vm.findClass E = some ce.cls → vx_W p l e R s m args below meth c H1 locs1 (cells + mc) (slots + ms) Q (F0 m pc ls rest) q9)
    (kk : ∀ (r : UInt32) (u : S) (t : State) (H1 : Heap) (locs1 : List Loc), t.heap = H1 → s.vm.Alike t.vm → post r u → B u t → H.size ≤ H1.size → (∀ q : Nat, q < H.size → ¬ A1 q → H1[q]? = H[q]?) → va_S A0 H0 H1 locs1 → W p l e R s m args below meth c H1 locs1 (cells + mc) (slots + ms) Q (F0 m (pc + 3) ls (.float r :: rest))) : W p l e R s m args below meth c H locs cells slots Q (F0 m pc ls st0) := by
  intro T hT X
  rcases hr T hT X with ⟨v, st₀, t, T', L, h0, X', hL, e1, e2, ⟨⟨r, u, hv, hp, hb⟩, hF⟩, st⟩ | ⟨q, st₀, t, T', L, E, ce, h0, X', hL, e1, e2, ⟨u, hp, hb, hF⟩, hce, hcv, hcl, st⟩
  · cases hv
    obtain ⟨k1, k2, k3⟩ := vx_keep h0 e1 hS hA hf hL hF
    obtain ⟨t2, a1, b1⟩ := kk r u t T'.heap (locs ++ L) e1.symm (by rw [← e2]; exact X'.warmed.alike) hp hb k1 k2 k3 T' rfl X'
    exact ⟨t2, st t2 a1, b1⟩
  · obtain ⟨k1, k2, k3⟩ := vx_keep h0 e1 hS hAX hf hL hF
    obtain ⟨t2, a1, b1⟩ := kx E ce q u t T'.heap (locs ++ L) e1.symm (by rw [← e2]; exact X'.warmed.alike) hp hb k1 k2 k3 (by rw [e1]; exact hce) hcv hcl T' rfl X'
    exact ⟨t2, st.trans a1, b1⟩
theorem vx_calld {S SX : Type} {post : UInt64 → S → Prop} {px : SX → Prop} {B : S → State → Prop} {BX : String → SX → State → Prop} {AX : Nat → Prop} (hr : vx_Run p l e R s m args below meth c H locs cells slots mc ms (F0 m pc ls st0) rest (va_Qd post B A1 a) (vx_X px BX AX) free) (hS : va_S A0 H0 H locs) (hA : ∀ q, q < H.size → A1 q → A0 q) (hf : ∀ q, free q → A0 q) (hAX : ∀ q, q < H.size → AX q → A0 q)
    (kx : ∀ (E : String) (ce : Cell) (q9 : Addr) (u : SX) (t : State) (H1 : Heap) (locs1 : List Loc), t.heap = H1 → s.vm.Alike t.vm → px u → BX E u t → H.size ≤ H1.size → (∀ q : Nat, q < H.size → ¬ AX q → H1[q]? = H[q]?) → va_S A0 H0 H1 locs1 → H1[q9]? = some ce → ce.vm = .none → s.vm.findClass E = some ce.cls → vx_W p l e R s m args below meth c H1 locs1 (cells + mc) (slots + ms) Q (F0 m pc ls rest) q9)
    (kk : ∀ (r : UInt64) (u : S) (t : State) (H1 : Heap) (locs1 : List Loc), t.heap = H1 → s.vm.Alike t.vm → post r u → B u t → H.size ≤ H1.size → (∀ q : Nat, q < H.size → ¬ A1 q → H1[q]? = H[q]?) → va_S A0 H0 H1 locs1 → W p l e R s m args below meth c H1 locs1 (cells + mc) (slots + ms) Q (F0 m (pc + 3) ls (.double r :: rest))) : W p l e R s m args below meth c H locs cells slots Q (F0 m pc ls st0) := by
  intro T hT X
  rcases hr T hT X with ⟨v, st₀, t, T', L, h0, X', hL, e1, e2, ⟨⟨r, u, hv, hp, hb⟩, hF⟩, st⟩ | ⟨q, st₀, t, T', L, E, ce, h0, X', hL, e1, e2, ⟨u, hp, hb, hF⟩, hce, hcv, hcl, st⟩
  · cases hv
    obtain ⟨k1, k2, k3⟩ := vx_keep h0 e1 hS hA hf hL hF
    obtain ⟨t2, a1, b1⟩ := kk r u t T'.heap (locs ++ L) e1.symm (by rw [← e2]; exact X'.warmed.alike) hp hb k1 k2 k3 T' rfl X'
    exact ⟨t2, st t2 a1, b1⟩
  · obtain ⟨k1, k2, k3⟩ := vx_keep h0 e1 hS hAX hf hL hF
    obtain ⟨t2, a1, b1⟩ := kx E ce q u t T'.heap (locs ++ L) e1.symm (by rw [← e2]; exact X'.warmed.alike) hp hb k1 k2 k3 (by rw [e1]; exact hce) hcv hcl T' rfl X'
    exact ⟨t2, st.trans a1, b1⟩
theorem vx_callv {S SX : Type} {post : S → Prop} {px : SX → Prop} {B : S → State → Prop} {BX : String → SX → State → Prop} {AX : Nat → Prop} (hr : vx_Run p l e R s m args below meth c H locs cells slots mc ms (F0 m pc ls st0) rest (va_Qv post B A1 a) (vx_X px BX AX) free) (hS : va_S A0 H0 H locs) (hA : ∀ q, q < H.size → A1 q → A0 q) (hf : ∀ q, free q → A0 q) (hAX : ∀ q, q < H.size → AX q → A0 q)
    (kx : ∀ (E : String) (ce : Cell) (q9 : Addr) (u : SX) (t : State) (H1 : Heap) (locs1 : List Loc), t.heap = H1 → s.vm.Alike t.vm → px u → BX E u t → H.size ≤ H1.size → (∀ q : Nat, q < H.size → ¬ AX q → H1[q]? = H[q]?) → va_S A0 H0 H1 locs1 → H1[q9]? = some ce → ce.vm = .none → s.vm.findClass E = some ce.cls → vx_W p l e R s m args below meth c H1 locs1 (cells + mc) (slots + ms) Q (F0 m pc ls rest) q9)
    (kk : ∀ (u : S) (t : State) (H1 : Heap) (locs1 : List Loc), t.heap = H1 → s.vm.Alike t.vm → post u → B u t → H.size ≤ H1.size → (∀ q : Nat, q < H.size → ¬ A1 q → H1[q]? = H[q]?) → va_S A0 H0 H1 locs1 → W p l e R s m args below meth c H1 locs1 (cells + mc) (slots + ms) Q (F0 m (pc + 3) ls (rest))) : W p l e R s m args below meth c H locs cells slots Q (F0 m pc ls st0) := by
  intro T hT X
  rcases hr T hT X with ⟨v, st₀, t, T', L, h0, X', hL, e1, e2, ⟨⟨u, hv, hp, hb⟩, hF⟩, st⟩ | ⟨q, st₀, t, T', L, E, ce, h0, X', hL, e1, e2, ⟨u, hp, hb, hF⟩, hce, hcv, hcl, st⟩
  · cases hv
    obtain ⟨k1, k2, k3⟩ := vx_keep h0 e1 hS hA hf hL hF
    obtain ⟨t2, a1, b1⟩ := kk u t T'.heap (locs ++ L) e1.symm (by rw [← e2]; exact X'.warmed.alike) hp hb k1 k2 k3 T' rfl X'
    exact ⟨t2, st t2 a1, b1⟩
  · obtain ⟨k1, k2, k3⟩ := vx_keep h0 e1 hS hAX hf hL hF
    obtain ⟨t2, a1, b1⟩ := kx E ce q u t T'.heap (locs ++ L) e1.symm (by rw [← e2]; exact X'.warmed.alike) hp hb k1 k2 k3 (by rw [e1]; exact hce) hcv hcl T' rfl X'
    exact ⟨t2, st.trans a1, b1⟩
/-- caught by the row x of this method's table; the rows ahead don't take it -/
theorem vx_catch {own name : String} {E : String} {ce : Cell} {q : Addr} (hown : s.vm.findClass own = some m.cls) (pre : List ExceptionTableEntry) (x : ExceptionTableEntry) (suf : List ExceptionTableEntry) (hsplit : c.exceptionTable.toList = pre ++ x :: suf)
    (hpass : ∀ z ∈ pre, covers z pc = false ∨ (z.catchType ≠ 0 ∧ ∃ nm : String, (Cond.classLink own z.catchType nm).before args s = true ∧ va_Nc E nm s)) (hx : covers x pc = true) (h0 : x.catchType ≠ 0)
    (hlink : (Cond.classLink own x.catchType name).before args s = true) (hcast : (Cond.castable E name).before args s = true) (hcell : H[q]? = some ce) (hv : ce.vm = .none) (hcl : s.vm.findClass E = some ce.cls)
    (kk : W p l e R s m args below meth c H locs cells slots Q (F0 m x.handlerPc ls [.ref q])) : vx_W p l e R s m args below meth c H locs cells slots Q (F0 m pc ls rest) q := by
  intro T hT X
  have hpl : e.platform.magicAccessors = ({} : Platform).magicAccessors := by rw [X.admits.platform]
  obtain ⟨c3, c4, hc3, hc4, hasg⟩ := Cond.castable_spec hcast
  cases Option.some.inj (hc3.symm.trans hcl)
  obtain ⟨c5, hc5, hcl5⟩ := Cond.classLink_spec hown hlink e.platform hpl
  cases Option.some.inj (hc4.symm.trans hc5)
  obtain ⟨vm', X', st⟩ := X.thenCaughtThrough q (g := F0 m pc ls rest) rfl (Steps.refl _) (by rw [hT]; exact hcell) (by rw [hv]; rfl) (by obtain ⟨k9, h9, -⟩ := Vm.findClass_spec hcl; exact ⟨k9, h9⟩) pre x suf hsplit
    (fun z hz => by
      rcases hpass z hz with h | ⟨hz0, nm, hl1, hn1⟩
      · exact Or.inl h
      · obtain ⟨c6, hc6, hcl6⟩ := Cond.classLink_spec hown hl1 e.platform hpl
        obtain ⟨a8, b8, h1, h2, h3⟩ := hn1
        cases Option.some.inj (h1.symm.trans hcl)
        cases Option.some.inj (h2.symm.trans hc6)
        exact Or.inr ⟨hz0, _, hcl6, h3⟩) hx (Or.inr ⟨h0, c4, hcl5, hasg⟩)
  obtain ⟨t, a1, b1⟩ := kk (T.setVm vm') hT X'
  exact ⟨t, st.trans a1, b1⟩
end Rows
section Ends
variable {p : Program} {l : Launch} {e : Env} {R : Room} {s : State} {m : MethodId} {args : Array Value} {below : List Frame} {meth : Method} {c : Code} {H : Heap} {locs : List Loc} {cells slots : Nat} {Q : State → Prop}
variable {mc ms : Nat} {free : Addr → Prop} {A0 A1 : Nat → Prop} {H0 : Heap} {a : Array Value} {ls : Array Slot} {st0 rest : List Value}
variable {Qc : Array Value → State → Outcome → State → Prop} {XC : String → State → State → Prop}
/-- what a body that may throw owes at its end -/
def vx_MQ (below : List Frame) (Qc : Array Value → State → Outcome → State → Prop) (XC : String → State → State → Prop) (a : Array Value) (s : State) (mc ms : Nat) (free : Addr → Prop) : State → Prop := fun t =>
  ∃ o, t.status = .running ∧ Ended t below o ∧ vx_Q Qc XC mc ms free a s o t
theorem vx_ret {g : JFrame} {mc ms : Nat} (k : W p l e R s m args below meth c H locs cells slots (MQ below Qc args s mc ms free) g) : W p l e R s m args below meth c H locs cells slots (vx_MQ below Qc XC args s mc ms free) g := by
  intro T hT X
  obtain ⟨t, a1, o, b1, b2, b3, b4⟩ := k T hT X
  exact ⟨t, a1, o, b1, b2, Or.inl ⟨b3, b4⟩⟩
/-- not caught here: it goes on to the caller -/
theorem vx_widen {g : JFrame} {q : Addr} {k n : Nat} (h1 : cells ≤ k) (h2 : slots ≤ n) (kk : vx_W p l e R s m args below meth c H locs k n Q g q) : vx_W p l e R s m args below meth c H locs cells slots Q g q := fun T hT X => kk T hT (stand_widen X h1 h2)
theorem vx_out {pc : Nat} {E : String} {ce : Cell} {q : Addr} {mc ms : Nat} (hout : ∀ x ∈ c.exceptionTable.toList, covers x pc = false) (hlocks : meth.locks = false) (hcell : H[q]? = some ce) (hv : ce.vm = .none) (hcl : s.vm.findClass E = some ce.cls)
    (hx : ∀ t : State, t.heap = H → s.vm.Alike t.vm → XC E s t) (hf : ∀ z ∈ locs, free z.base) (hc : cells ≤ mc) (hs : slots ≤ ms) :
    vx_W p l e R s m args below meth c H locs cells slots (vx_MQ below Qc XC args s mc ms free) (F0 m pc ls rest) q := by
  intro T hT X
  obtain ⟨st1, hrun, hend, hW, hsm⟩ := X.leaveThrown q (g := F0 m pc ls rest) rfl rfl rfl hout hlocks
  have hcell9 : (T.setFrames (.throwing q :: below)).heap[q]? = some ce := by
    show T.heap[q]? = some ce
    rw [hT]; exact hcell
  exact ⟨_, st1, .threw q, hrun, hend, Or.inr ⟨q, rfl, E, ce, locs, hx _ hT hW.alike, hcell9, hv, hcl, hW, hsm.mono hc hs, hf⟩⟩
theorem vx_frame {U : State} {k n : Nat} (h : s.sameButNew ({ U with vm := s.vm } : State) locs k n) : s.heap.size ≤ U.heap.size ∧ ∀ q : Nat, q < s.heap.size → (∀ z ∈ locs, z.base ≠ q) → U.heap[q]? = s.heap[q]? := by
  obtain ⟨-, h2, -, -, -, h6⟩ := h
  refine ⟨h2, fun q hq hz => ?_⟩
  obtain ⟨c9, e1, e2, e3, e4⟩ := h6 q _ (Array.getElem?_eq_getElem hq)
  have hs : c9.slots = (s.heap[q]).slots := Array.ext_getElem? fun i => e4 i fun hm => hz _ hm rfl
  have h9 : c9 = s.heap[q] := by
    rw [hs] at e2
    exact e2
  have e5 : U.heap[q]? = some c9 := e1
  rw [e5, h9, Array.getElem?_eq_getElem hq]
/-- the words of a throw but the four that speak of the heap -/
def vx_no (w : Cond) : Bool := decide (w ≠ .isRef (.static Bundle.tN "UNASSIGNED_STACK" Bundle.steD)) && decide (w ≠ .isRef (.static Bundle.tN "SUPPRESSED_SENTINEL" Bundle.listD)) && decide (w ≠ .laysStatic Bundle.tN "UNASSIGNED_STACK" Bundle.steD) && decide (w ≠ .laysStatic Bundle.tN "SUPPRESSED_SENTINEL" Bundle.listD)
def vx_at0 (own : String) (ic : Nat) (X : String) (names : List String) : List Cond := (Bundle.ownAtoms0 own ic X names).filter vx_no
def vx_atS (own : String) (ic : Nat) (X : String) (names : List String) : List Cond := (Bundle.ownAtoms own ic X names).filter vx_no
/-- a word that the tables alone decide, or a good one -/
def vx_ot (w : Cond) : Bool := w.onTables || goodWord w
theorem vx_ot_at {args a' : Array Value} {s U : State} {w : Cond} (hW : s.WarmedH U.vm) (hvm : s.vm = U.vm) (hg : vx_ot w = true) (h : w.before args s = true) : w.before a' U = true := by
  simp only [vx_ot, Bool.or_eq_true] at hg
  rcases hg with hg | hg
  · exact va_tabs hg hvm h
  · exact word_at hW (good_of_word hg) h
/-- a list's words: the good ones out of the method's own list, the others by premises of their own -/
theorem vx_hat {args : Array Value} {s : State} {L B : List Cond} (h1 : ∀ w ∈ L.filter goodWord, w.before args s = true) (h2 : ∀ w ∈ L.filter (fun w => !goodWord w), w ∈ B) (h3 : ∀ w ∈ B, w.before args s = true) : ∀ w ∈ L, w.before args s = true := by
  intro w hw
  by_cases g : goodWord w = true
  · exact h1 w (List.mem_filter.mpr ⟨hw, g⟩)
  · refine h3 w (h2 w (List.mem_filter.mpr ⟨hw, ?_⟩))
    show (!goodWord w) = true
    cases hgw : goodWord w
    · rfl
    · exact absurd hgw g
theorem vx_c {args : Array Value} {s : State} {w : Cond} {B : List Cond} (h : w.before args s = true) (t : ∀ w ∈ B, w.before args s = true) : ∀ w' ∈ w :: B, w'.before args s = true := fun w' h' => (List.mem_cons.mp h').elim (fun e => by rw [e]; exact h) (t w')
theorem vx_n {args : Array Value} {s : State} : ∀ w ∈ ([] : List Cond), w.before args s = true := fun _ h => nomatch h
theorem vx_own {args : Array Value} {s : State} {L : List Cond} (h1 : ∀ w ∈ L.filter vx_no, w.before args s = true)
    (hU : (Cond.isRef (.static Bundle.tN "UNASSIGNED_STACK" Bundle.steD)).before args s = true) (hN : (Cond.isRef (.static Bundle.tN "SUPPRESSED_SENTINEL" Bundle.listD)).before args s = true)
    (lU : (Cond.laysStatic Bundle.tN "UNASSIGNED_STACK" Bundle.steD).before args s = true) (lN : (Cond.laysStatic Bundle.tN "SUPPRESSED_SENTINEL" Bundle.listD).before args s = true) : ∀ w ∈ L, w.before args s = true := by
  intro w hw
  by_cases e1 : w = .isRef (.static Bundle.tN "UNASSIGNED_STACK" Bundle.steD)
  · rw [e1]; exact hU
  · by_cases e2 : w = .isRef (.static Bundle.tN "SUPPRESSED_SENTINEL" Bundle.listD)
    · rw [e2]; exact hN
    · by_cases e3 : w = .laysStatic Bundle.tN "UNASSIGNED_STACK" Bundle.steD
      · rw [e3]; exact lU
      · by_cases e4 : w = .laysStatic Bundle.tN "SUPPRESSED_SENTINEL" Bundle.listD
        · rw [e4]; exact lN
        · exact h1 w (List.mem_filter.mpr ⟨hw, by unfold vx_no; rw [decide_eq_true e1, decide_eq_true e2, decide_eq_true e3, decide_eq_true e4]; rfl⟩)
/-- where a static field lies, its class's statics cell in H -/
def vx_L (C n d : String) (A : Nat → Prop) (U : State) (H : Heap) : Prop := ∃ (c : ClassId) (k : Class) (i : Nat) (f : Field) (a : Nat) (cell : Cell), U.vm.findClass C = some c ∧ U.fieldFound? C n d = some (c, k, i, f) ∧ f.isStatic = true ∧ k.statics = some a ∧ H[a]? = some cell ∧ cell.vm.isStatics = true ∧ cell.cls = c ∧ f.slot < cell.slots.size ∧ k.staticTypes[f.slot]? = some f.type ∧ ¬ A a
theorem vx_L.moved {C n d : String} {A : Nat → Prop} {u U : State} {H : Heap} (hvm : u.vm.Alike U.vm) (h : vx_L C n d A u H) : vx_L C n d A U H := by
  obtain ⟨c, k, i, f, a, cell, h1, h2, h3, h4, h5, h6, h7, h8, h9, h10⟩ := h
  obtain ⟨k', hi', he⟩ := State.fieldFound?_setVm hvm h2
  exact ⟨c, k', i, f, a, cell, by rw [hvm.findClass]; exact h1, hi', h3, by rw [he]; exact h4, h5, h6, h7, h8, by rw [he]; exact h9, h10⟩
theorem vx_L.kept {C n d : String} {A : Nat → Prop} {U : State} {H H1 : Heap} (h : vx_L C n d A U H) (hq : ∀ a : Nat, a < H.size → ¬ A a → H1[a]? = H[a]?) : vx_L C n d A U H1 := by
  obtain ⟨c, k, i, f, a, cell, h1, h2, h3, h4, h5, h6, h7, h8, h9, h10⟩ := h
  exact ⟨c, k, i, f, a, cell, h1, h2, h3, h4, by rw [hq a (Array.getElem?_eq_some_iff.mp h5).1 h10]; exact h5, h6, h7, h8, h9, h10⟩
theorem vx_L.narrow {C n d : String} {A B : Nat → Prop} {U : State} {H : Heap} (h : vx_L C n d A U H) (hAB : ∀ q, B q → A q) : vx_L C n d B U H := by
  obtain ⟨c, k, i, f, a, cell, h1, h2, h3, h4, h5, h6, h7, h8, h9, h10⟩ := h
  exact ⟨c, k, i, f, a, cell, h1, h2, h3, h4, h5, h6, h7, h8, h9, fun z => h10 (hAB _ z)⟩
theorem vx_L.word {C n d : String} {A : Nat → Prop} {s : State} {args : Array Value} (h : vx_L C n d A s s.heap) : (Cond.laysStatic C n d).before args s = true := by
  obtain ⟨c, k, i, f, a, cell, h1, h2, h3, h4, h5, h6, h7, h8, h9, -⟩ := h
  show (Cond.laysStatic C n d).holds args s none s [] = true
  exact Cond.laysStatic_of h1 h2 h3 h4 h5 h6 h7 h8 h9
/-- .. and what it holds: null or some reference -/
def vx_Zq (C n d : String) (A : Nat → Prop) (U : State) (H : Heap) : Prop := va_Zq C n d A U H ∧ vx_L C n d A U H
theorem vx_Zq.moved {C n d : String} {A : Nat → Prop} {u U : State} {H : Heap} (hvm : u.vm.Alike U.vm) (h : vx_Zq C n d A u H) : vx_Zq C n d A U H := ⟨va_Zq.moved hvm h.1, vx_L.moved hvm h.2⟩
theorem vx_Zq.kept {C n d : String} {A : Nat → Prop} {U : State} {H H1 : Heap} (h : vx_Zq C n d A U H) (hq : ∀ a : Nat, a < H.size → ¬ A a → H1[a]? = H[a]?) : vx_Zq C n d A U H1 := ⟨va_Zq.kept h.1 hq, vx_L.kept h.2 hq⟩
theorem vx_Zq.narrow {C n d : String} {A B : Nat → Prop} {U : State} {H : Heap} (h : vx_Zq C n d A U H) (hAB : ∀ q, B q → A q) : vx_Zq C n d B U H := ⟨va_Zq.narrow h.1 hAB, vx_L.narrow h.2 hAB⟩
theorem vx_Zqof {args : Array Value} {s : State} {C n d : String} {A : Nat → Prop} (hl : (Cond.laysStatic C n d).before args s = true) (hini : (Cond.initialized C).before args s = true) (h : (Cond.isRef (.static C n d)).before args s = true) (hA : ∀ a : Nat, a < s.heap.size → ¬ A a) : vx_Zq C n d A s s.heap := by
  refine ⟨va_Zqof hl hini h hA, ?_⟩
  obtain ⟨c, k, i, f, a, cell, h1, h2, h3, h4, h5, h6, h7, h8, h9⟩ := Cond.laysStatic_spec hl
  exact ⟨c, k, i, f, a, cell, h1, h2, h3, h4, h5, h6, h7, h8, h9, hA a (Array.getElem?_eq_some_iff.mp h5).1⟩
theorem vx_isRef {C n d : String} {v : Value} {A : Nat → Prop} {s : State} {args : Array Value} (h : va_Z C n d v A s s.heap) (hv : v.isRef = true) : (Cond.isRef (.static C n d)).before args s = true := by
  obtain ⟨cf, kf, fi, f, a, cell, h1, h2, h3, h4, h5, h6, h7, -⟩ := h
  have he : (Term.static C n d).eval args s none [] s = some v := by
    simp [Term.eval, State.fieldNamed?, h1, h2, h4, h5, h6, h7]
  simp only [Cond.before, Cond.holds, Cond.value, he]
  cases v <;> simp_all [Value.isRef]
theorem vx_isRefq {C n d : String} {A : Nat → Prop} {s : State} {args : Array Value} (h : va_Zq C n d A s s.heap) : (Cond.isRef (.static C n d)).before args s = true := by
  rcases h with h | ⟨t, h⟩
  · exact vx_isRef h rfl
  · exact vx_isRef h rfl
/-- the same frame, seen from here: as if the method were called anew in this heap -/
theorem vx_rebase {T : State} (X : Stand p l e R s m args below meth c T locs cells slots) {R' : Room} (hf : R'.frames ≤ R.frames) (hl : R'.locals ≤ R.locals) (hc : cells + R'.cells ≤ R.cells) (hs : slots + R'.slots ≤ R.slots) :
    Stand p l e R' ((T.setVm s.vm).setFrames (.invoking m args :: below)) m args below meth c T [] 0 0 := by
  have htop : (T.setVm s.vm).topJava?.isSome := X.here.top
  have hF : ((T.setVm s.vm).setFrames (.invoking m args :: below)).frames = .invoking m args :: below := State.frames_setFrames _ (State.cur_lt_of_top htop)
  obtain ⟨g₀, hg0⟩ := Option.isSome_iff_exists.mp htop
  obtain ⟨r, hr⟩ := State.topJava?_eq_some.mp hg0
  have hl9 : e.platform.stackLimits (T.setVm s.vm).me = e.platform.stackLimits s.me := X.limits
  have hb9 : (T.setVm s.vm).me.stackBytes = s.me.stackBytes := X.bytes
  refine ⟨X.admits, X.cas, X.clock, hF, ?_, X.hears, X.method, X.code, X.here, X.tail, X.warmed, ?_, ?_, ?_⟩
  · have h := X.room
    have hU : ((T.setVm s.vm).setFrames (.invoking m args :: below)).localsInUse = s.localsInUse := by
      rw [State.localsInUse_invoking hF (meth := meth) (c := c) X.method X.code, State.localsInUse_invoking X.frames X.method X.code]
    simp only [State.hasRoom, Bool.and_eq_true, decide_eq_true_eq] at h ⊢
    obtain ⟨⟨⟨⟨h1, h2, h3, h4, h5, h6⟩, h7⟩, h8⟩, h9⟩ := h
    rw [X.frames, List.length_cons] at h2 h3
    have q1 := X.heapSize
    have q2 := X.used
    simp only [hF, hU, List.length_cons, State.stackLimits_setFrames, State.stackBytes_setFrames, hl9, hb9]
    refine ⟨⟨⟨⟨by omega, by omega, by omega, by omega, by omega, h6⟩, ?_⟩, ?_⟩, X.book⟩
    · show T.heap.size + R'.cells ≤ e.platform.maxCells
      omega
    · show T.slotsUsed + R'.slots ≤ e.platform.maxSlots
      omega
  · rw [State.stackLimits_setFrames]; rfl
  · rw [State.stackBytes_setFrames]; rfl
  · refine ⟨?_, Nat.le_refl _, Nat.le_refl _, ?_, ?_, fun a c9 h9 => ⟨c9, h9, rfl, rfl, fun _ _ => rfl⟩⟩
    · obtain ⟨t, ht, -⟩ := State.frames_cons hr
      show T.setVm s.vm = { ((T.setVm s.vm).setFrames (.invoking m args :: below)).setFrames (T.setVm s.vm).frames with heap := T.heap, slotsUsed := T.slotsUsed }
      rw [State.setFrames_setFrames, State.setFrames_self ht]
      rfl
    · show T.slotsUsed = T.slotsUsed + ((T.heap.toList.drop T.heap.size).map (·.slots.size)).sum
      rw [List.drop_eq_nil_of_le (Nat.le_of_eq Array.length_toList)]
      rfl
    · show ((T.heap.toList.drop T.heap.size).map (·.slots.size)).sum ≤ 0
      rw [List.drop_eq_nil_of_le (Nat.le_of_eq Array.length_toList)]
      exact Nat.le_refl _
/-- 'throw new E()': new; dup; invokespecial; athrow -/
theorem vx_throw0 {cc : ByteArray} {pc : Nat} (hexec : p.tables.exec = Jvm.exec) (hb : c.code = cc) (hl : l.stackTraces = false) {own cls : String} {names : List String} {ik ic mc ms : Nat} {A : Nat → Prop}
    (hown : s.vm.findClass own = some m.cls) (hcls : Bundle.fit cls = true) (hnames : ∀ n ∈ names, Bundle.fit n = true)
    (hk : (Cond.classLink own ik cls).before args s = true) (hini : (Cond.initialized cls).before args s = true) (hat : ∀ w ∈ vx_at0 own ic cls names, w.before args s = true)
    (hgood : ∀ w ∈ Cond.classLink own ik cls :: Cond.initialized cls :: vx_at0 own ic cls names, vx_ot w = true)
    (hU : vx_Zq Bundle.tN "UNASSIGNED_STACK" Bundle.steD A s s.heap) (hN : vx_Zq Bundle.tN "SUPPRESSED_SENTINEL" Bundle.listD A s s.heap) (hS : va_S A s.heap H locs) (hsize : ls.size = c.maxLocals)
    (d0 : decode cc pc = .ok (.new ik, 3)) (d3 : decode cc (pc + 3) = .ok (.dup, 1)) (d4 : decode cc (pc + 4) = .ok (.invokespecial ic, 3)) (d7 : decode cc (pc + 7) = .ok (.athrow, 1))
    (hout : ∀ x ∈ c.exceptionTable.toList, covers x (pc + 7) = false)
    (hRframes : names.length + 3 < R.frames) (hRlocals : (rest.map fun v => v.category).sum + (13 * (names.length + 1) + 42) ≤ R.locals) (hRcells : cells + 1 ≤ R.cells) (hRslots : slots + 6 ≤ R.slots) (hlocks : meth.locks = false)
    (hx : ∀ t : State, s.vm.Alike t.vm → H.size ≤ t.heap.size → (∀ q : Nat, q < H.size → t.heap[q]? = H[q]?) → XC cls s t)
    (hf : ∀ z ∈ locs, free z.base) (hc : cells + 1 ≤ mc) (hs : slots + 6 ≤ ms) :
    W p l e R s m args below meth c H locs cells slots (vx_MQ below Qc XC args s mc ms free) (F0 m pc ls rest) := by
  intro T hT X
  have htr : e.platform.stackTraces = false := (show e.platform.stackTraces = l.stackTraces by rw [X.admits.platform]).trans hl
  have Y := vx_rebase X (R' := { frames := R.frames, locals := R.locals, cells := 1, slots := 6 }) (Nat.le_refl _) (Nat.le_refl _) hRcells hRslots
  obtain ⟨s', hA⟩ : ∃ z, z = (T.setVm s.vm).setFrames (.invoking m args :: below) := ⟨_, rfl⟩
  rw [← hA] at Y
  have hvm : s'.vm = s.vm := by rw [hA]; rfl
  have hhp : s'.heap = H := by rw [hA]; exact hT
  have hW0 : s.WarmedH s'.vm := by rw [hvm]; exact State.WarmedH.refl s
  have hat' : ∀ w ∈ vx_at0 own ic cls names, w.before args s' = true := fun w hw => vx_ot_at hW0 hvm.symm (hgood w (List.mem_cons_of_mem _ (List.mem_cons_of_mem _ hw))) (hat w hw)
  have hk' : (Cond.classLink own ik cls).before args s' = true := vx_ot_at hW0 hvm.symm (hgood _ List.mem_cons_self) hk
  have hini' : (Cond.initialized cls).before args s' = true := vx_ot_at hW0 hvm.symm (hgood _ (List.mem_cons_of_mem _ List.mem_cons_self)) hini
  have hU' : vx_Zq Bundle.tN "UNASSIGNED_STACK" Bundle.steD A s' s'.heap := by rw [hhp]; exact vx_Zq.moved hW0.alike (hU.kept hS.2.1)
  have hN' : vx_Zq Bundle.tN "SUPPRESSED_SENTINEL" Bundle.listD A s' s'.heap := by rw [hhp]; exact vx_Zq.moved hW0.alike (hN.kept hS.2.1)
  have h : ∀ w ∈ Bundle.ownAtoms0 own ic cls names, w.before args s' = true := vx_own hat' (vx_isRefq hU'.1) (vx_isRefq hN'.1) hU'.2.word hN'.2.word
  have hown' : s'.vm.findClass own = some m.cls := by rw [hvm]; exact hown
  have hins : (Cond.instantiable cls 6).before args s' = true := h _ (by simp [Bundle.ownAtoms0])
  obtain ⟨vm₁, cX, kX, hfX, hkX, -, -, X₁, st1⟩ := Y.newCold hexec (own := own) (C := cls) (index := ik) (n := 6) hown' hk' hins hini'
    (g := F0 m pc ls rest) rfl (by rw [hb]; exact d0) (Nat.le_refl _) (Nat.le_refl _)
  generalize hT1 : (T.setVm vm₁).pushCell { cls := cX, slots := kX.instanceTypes.map defaultValue, vm := .none } = T1 at X₁ st1
  have hcat : (Value.ref T.heap.size).category = 1 := rfl
  have hcellA : T1.heap[T.heap.size]? = some (freshCell cX kX) := by rw [← hT1]; exact State.heap_pushCell_size _ _
  have d3' : decode c.code (pc + 3) = .ok (.dup, 1) := by rw [hb]; exact d3
  obtain ⟨U, hsteps, hrun, hend, hW, hsame, ce, hce, hO⟩ := X₁.ctorThrow0 hexec htr (own := own) (cls := cls) (names := names) (ic := ic) hown' hcls hnames h (fun x hx => nomatch hx) hfX hkX hcellA (by rw [hhp, hT]; exact Nat.le_refl _)
    (g := { method := m, pc := pc + 4, locals := ls, stack := .ref T.heap.size :: .ref T.heap.size :: rest, locked := none }) rfl hsize rfl rfl (rest := rest) rfl
    (by rw [hb]; exact d4) (by rw [hb]; exact d7) hout hRframes (by simp only [List.map_cons, List.sum_cons, hcat]; omega) hlocks
  obtain ⟨f1, f2⟩ := vx_frame hsame
  rw [hhp] at f1 f2
  have hWs : s.WarmedH U.vm := State.WarmedH.trans hW0 hW
  have hcl : s.vm.findClass cls = some ce.cls := by
    have h9 := hO.cls
    rw [hvm] at h9
    exact h9
  have hall : s.sameButNew ({ U with vm := s.vm } : State) locs mc ms := by
    subst hA
    obtain ⟨e1, e2⟩ := hsame
    rw [State.setFrames_setFrames] at e1
    have h2 : (T.setVm s.vm).sameButNew ({ U with vm := s.vm } : State) [] (0 + 1) (0 + 6) := ⟨e1, e2⟩
    have h3 := X.same.trans h2
    rw [List.append_nil] at h3
    exact h3.mono hc hs
  refine ⟨U, ?_, .threw T.heap.size, hrun, hend, Or.inr ⟨T.heap.size, rfl, cls, ce, locs, hx U hWs.alike f1 (fun q hq => f2 q hq (fun z hz => nomatch hz)), hce, hO.vm, hcl, hWs, hall, hf⟩⟩
  refine st1 _ ?_
  show Steps p.tables e below (T1.setTop { method := m, pc := pc + 3, locals := ls, stack := .ref T.heap.size :: rest, locked := none }) _
  jvm_step X₁.here [X₁.here.top, hexec, d3', Value.category]
  exact hsteps
/-- 'throw new E("text")': new; dup; ldc; invokespecial; athrow -/
theorem vx_throwS {cc : ByteArray} {pc : Nat} (hexec : p.tables.exec = Jvm.exec) (hb : c.code = cc) (hl : l.stackTraces = false) {own cls text : String} {names : List String} {ik is ic mc ms sa : Nat} {A : Nat → Prop}
    (hown : s.vm.findClass own = some m.cls) (hcls : Bundle.fit cls = true) (hnames : ∀ n ∈ names, Bundle.fit n = true)
    (hk : (Cond.classLink own ik cls).before args s = true) (hini : (Cond.initialized cls).before args s = true) (hstr : vk_R own is text sa s) (hat : ∀ w ∈ vx_atS own ic cls names, w.before args s = true)
    (hgood : ∀ w ∈ Cond.classLink own ik cls :: Cond.initialized cls :: vx_atS own ic cls names, vx_ot w = true)
    (hU : vx_Zq Bundle.tN "UNASSIGNED_STACK" Bundle.steD A s s.heap) (hN : vx_Zq Bundle.tN "SUPPRESSED_SENTINEL" Bundle.listD A s s.heap) (hS : va_S A s.heap H locs) (hsize : ls.size = c.maxLocals)
    (d0 : decode cc pc = .ok (.new ik, 3)) (d3 : decode cc (pc + 3) = .ok (.dup, 1)) (d4 : decode cc (pc + 4) = .ok (.ldc is, 2)) (d6 : decode cc (pc + 6) = .ok (.invokespecial ic, 3)) (d9 : decode cc (pc + 9) = .ok (.athrow, 1))
    (hout : ∀ x ∈ c.exceptionTable.toList, covers x (pc + 9) = false)
    (hRframes : names.length + 3 < R.frames) (hRlocals : (rest.map fun v => v.category).sum + (13 * (names.length + 1) + 43) ≤ R.locals) (hRcells : cells + 1 ≤ R.cells) (hRslots : slots + 6 ≤ R.slots) (hlocks : meth.locks = false)
    (hx : ∀ t : State, s.vm.Alike t.vm → H.size ≤ t.heap.size → (∀ q : Nat, q < H.size → t.heap[q]? = H[q]?) → XC cls s t)
    (hf : ∀ z ∈ locs, free z.base) (hc : cells + 1 ≤ mc) (hs : slots + 6 ≤ ms) :
    W p l e R s m args below meth c H locs cells slots (vx_MQ below Qc XC args s mc ms free) (F0 m pc ls rest) := by
  intro T hT X
  have htr : e.platform.stackTraces = false := (show e.platform.stackTraces = l.stackTraces by rw [X.admits.platform]).trans hl
  have Y := vx_rebase X (R' := { frames := R.frames, locals := R.locals, cells := 1, slots := 6 }) (Nat.le_refl _) (Nat.le_refl _) hRcells hRslots
  obtain ⟨s', hA⟩ : ∃ z, z = (T.setVm s.vm).setFrames (.invoking m args :: below) := ⟨_, rfl⟩
  rw [← hA] at Y
  have hvm : s'.vm = s.vm := by rw [hA]; rfl
  have hhp : s'.heap = H := by rw [hA]; exact hT
  have hW0 : s.WarmedH s'.vm := by rw [hvm]; exact State.WarmedH.refl s
  have hat' : ∀ w ∈ vx_atS own ic cls names, w.before args s' = true := fun w hw => vx_ot_at hW0 hvm.symm (hgood w (List.mem_cons_of_mem _ (List.mem_cons_of_mem _ hw))) (hat w hw)
  have hk' : (Cond.classLink own ik cls).before args s' = true := vx_ot_at hW0 hvm.symm (hgood _ List.mem_cons_self) hk
  have hini' : (Cond.initialized cls).before args s' = true := vx_ot_at hW0 hvm.symm (hgood _ (List.mem_cons_of_mem _ List.mem_cons_self)) hini
  have hU' : vx_Zq Bundle.tN "UNASSIGNED_STACK" Bundle.steD A s' s'.heap := by rw [hhp]; exact vx_Zq.moved hW0.alike (hU.kept hS.2.1)
  have hN' : vx_Zq Bundle.tN "SUPPRESSED_SENTINEL" Bundle.listD A s' s'.heap := by rw [hhp]; exact vx_Zq.moved hW0.alike (hN.kept hS.2.1)
  have h : ∀ w ∈ Bundle.ownAtoms own ic cls names, w.before args s' = true := vx_own hat' (vx_isRefq hU'.1) (vx_isRefq hN'.1) hU'.2.word hN'.2.word
  have hown' : s'.vm.findClass own = some m.cls := by rw [hvm]; exact hown
  have hins : (Cond.instantiable cls 6).before args s' = true := h _ (by simp [Bundle.ownAtoms])
  obtain ⟨vm₁, cX, kX, hfX, hkX, -, -, X₁, st1⟩ := Y.newCold hexec (own := own) (C := cls) (index := ik) (n := 6) hown' hk' hins hini'
    (g := F0 m pc ls rest) rfl (by rw [hb]; exact d0) (Nat.le_refl _) (Nat.le_refl _)
  generalize hT1 : (T.setVm vm₁).pushCell { cls := cX, slots := kX.instanceTypes.map defaultValue, vm := .none } = T1 at X₁ st1
  have hcat : (Value.ref T.heap.size).category = 1 := rfl
  have hcellA : T1.heap[T.heap.size]? = some (freshCell cX kX) := by rw [← hT1]; exact State.heap_pushCell_size _ _
  have d3' : decode c.code (pc + 3) = .ok (.dup, 1) := by rw [hb]; exact d3
  have d4' : decode c.code (pc + 4) = .ok (.ldc is, 2) := by rw [hb]; exact d4
  have hstr' : vk_R own is text sa s' := vk_R.warm hW0 hstr
  obtain ⟨U, hsteps, hrun, hend, hW, hsame, ce, hce, hO⟩ := X₁.ctorThrowS hexec htr (own := own) (cls := cls) (names := names) (ic := ic) hown' hcls hnames h (fun x hx => nomatch hx) hfX hkX hcellA (by rw [hhp, hT]; exact Nat.le_refl _) (msg := .ref sa) rfl
    (g := { method := m, pc := pc + 6, locals := ls, stack := .ref sa :: .ref T.heap.size :: .ref T.heap.size :: rest, locked := none }) rfl hsize rfl rfl (rest := rest) rfl
    (by rw [hb]; exact d6) (by rw [hb]; exact d9) hout hRframes (by simp only [List.map_cons, List.sum_cons, hcat]; omega) hlocks
  obtain ⟨f1, f2⟩ := vx_frame hsame
  rw [hhp] at f1 f2
  have hWs : s.WarmedH U.vm := State.WarmedH.trans hW0 hW
  have hcl : s.vm.findClass cls = some ce.cls := by
    have h9 := hO.cls
    rw [hvm] at h9
    exact h9
  have hall : s.sameButNew ({ U with vm := s.vm } : State) locs mc ms := by
    subst hA
    obtain ⟨e1, e2⟩ := hsame
    rw [State.setFrames_setFrames] at e1
    have h2 : (T.setVm s.vm).sameButNew ({ U with vm := s.vm } : State) [] (0 + 1) (0 + 6) := ⟨e1, e2⟩
    have h3 := X.same.trans h2
    rw [List.append_nil] at h3
    exact h3.mono hc hs
  refine ⟨U, ?_, .threw T.heap.size, hrun, hend, Or.inr ⟨T.heap.size, rfl, cls, ce, locs, hx U hWs.alike f1 (fun q hq => f2 q hq (fun z hz => nomatch hz)), hce, hO.vm, hcl, hWs, hall, hf⟩⟩
  refine st1 _ ?_
  show Steps p.tables e below (T1.setTop { method := m, pc := pc + 3, locals := ls, stack := .ref T.heap.size :: rest, locked := none }) _
  jvm_step X₁.here [X₁.here.top, hexec, d3', Value.category]
  exact X₁.ldcString hexec (own := own) (text := text) (index := is) (a := sa) hown' hstr'.1 hstr'.2
    (g := { method := m, pc := pc + 4, locals := ls, stack := .ref T.heap.size :: .ref T.heap.size :: rest, locked := none }) rfl d4' _ hsteps
/-- 'throw new E("text")', the text by a wide index -/
theorem vx_throwSW {cc : ByteArray} {pc : Nat} (hexec : p.tables.exec = Jvm.exec) (hb : c.code = cc) (hl : l.stackTraces = false) {own cls text : String} {names : List String} {ik is ic mc ms sa : Nat} {A : Nat → Prop}
    (hown : s.vm.findClass own = some m.cls) (hcls : Bundle.fit cls = true) (hnames : ∀ n ∈ names, Bundle.fit n = true)
    (hk : (Cond.classLink own ik cls).before args s = true) (hini : (Cond.initialized cls).before args s = true) (hstr : vk_R own is text sa s) (hat : ∀ w ∈ vx_atS own ic cls names, w.before args s = true)
    (hgood : ∀ w ∈ Cond.classLink own ik cls :: Cond.initialized cls :: vx_atS own ic cls names, vx_ot w = true)
    (hU : vx_Zq Bundle.tN "UNASSIGNED_STACK" Bundle.steD A s s.heap) (hN : vx_Zq Bundle.tN "SUPPRESSED_SENTINEL" Bundle.listD A s s.heap) (hS : va_S A s.heap H locs) (hsize : ls.size = c.maxLocals)
    (d0 : decode cc pc = .ok (.new ik, 3)) (d3 : decode cc (pc + 3) = .ok (.dup, 1)) (d4 : decode cc (pc + 4) = .ok (.ldc_w is, 3)) (d7 : decode cc (pc + 7) = .ok (.invokespecial ic, 3)) (d10 : decode cc (pc + 10) = .ok (.athrow, 1))
    (hout : ∀ x ∈ c.exceptionTable.toList, covers x (pc + 10) = false)
    (hRframes : names.length + 3 < R.frames) (hRlocals : (rest.map fun v => v.category).sum + (13 * (names.length + 1) + 43) ≤ R.locals) (hRcells : cells + 1 ≤ R.cells) (hRslots : slots + 6 ≤ R.slots) (hlocks : meth.locks = false)
    (hx : ∀ t : State, s.vm.Alike t.vm → H.size ≤ t.heap.size → (∀ q : Nat, q < H.size → t.heap[q]? = H[q]?) → XC cls s t)
    (hf : ∀ z ∈ locs, free z.base) (hc : cells + 1 ≤ mc) (hs : slots + 6 ≤ ms) :
    W p l e R s m args below meth c H locs cells slots (vx_MQ below Qc XC args s mc ms free) (F0 m pc ls rest) := by
  intro T hT X
  have htr : e.platform.stackTraces = false := (show e.platform.stackTraces = l.stackTraces by rw [X.admits.platform]).trans hl
  have Y := vx_rebase X (R' := { frames := R.frames, locals := R.locals, cells := 1, slots := 6 }) (Nat.le_refl _) (Nat.le_refl _) hRcells hRslots
  obtain ⟨s', hA⟩ : ∃ z, z = (T.setVm s.vm).setFrames (.invoking m args :: below) := ⟨_, rfl⟩
  rw [← hA] at Y
  have hvm : s'.vm = s.vm := by rw [hA]; rfl
  have hhp : s'.heap = H := by rw [hA]; exact hT
  have hW0 : s.WarmedH s'.vm := by rw [hvm]; exact State.WarmedH.refl s
  have hat' : ∀ w ∈ vx_atS own ic cls names, w.before args s' = true := fun w hw => vx_ot_at hW0 hvm.symm (hgood w (List.mem_cons_of_mem _ (List.mem_cons_of_mem _ hw))) (hat w hw)
  have hk' : (Cond.classLink own ik cls).before args s' = true := vx_ot_at hW0 hvm.symm (hgood _ List.mem_cons_self) hk
  have hini' : (Cond.initialized cls).before args s' = true := vx_ot_at hW0 hvm.symm (hgood _ (List.mem_cons_of_mem _ List.mem_cons_self)) hini
  have hU' : vx_Zq Bundle.tN "UNASSIGNED_STACK" Bundle.steD A s' s'.heap := by rw [hhp]; exact vx_Zq.moved hW0.alike (hU.kept hS.2.1)
  have hN' : vx_Zq Bundle.tN "SUPPRESSED_SENTINEL" Bundle.listD A s' s'.heap := by rw [hhp]; exact vx_Zq.moved hW0.alike (hN.kept hS.2.1)
  have h : ∀ w ∈ Bundle.ownAtoms own ic cls names, w.before args s' = true := vx_own hat' (vx_isRefq hU'.1) (vx_isRefq hN'.1) hU'.2.word hN'.2.word
  have hown' : s'.vm.findClass own = some m.cls := by rw [hvm]; exact hown
  have hins : (Cond.instantiable cls 6).before args s' = true := h _ (by simp [Bundle.ownAtoms])
  obtain ⟨vm₁, cX, kX, hfX, hkX, -, -, X₁, st1⟩ := Y.newCold hexec (own := own) (C := cls) (index := ik) (n := 6) hown' hk' hins hini'
    (g := F0 m pc ls rest) rfl (by rw [hb]; exact d0) (Nat.le_refl _) (Nat.le_refl _)
  generalize hT1 : (T.setVm vm₁).pushCell { cls := cX, slots := kX.instanceTypes.map defaultValue, vm := .none } = T1 at X₁ st1
  have hcat : (Value.ref T.heap.size).category = 1 := rfl
  have hcellA : T1.heap[T.heap.size]? = some (freshCell cX kX) := by rw [← hT1]; exact State.heap_pushCell_size _ _
  have d3' : decode c.code (pc + 3) = .ok (.dup, 1) := by rw [hb]; exact d3
  have d4' : decode c.code (pc + 4) = .ok (.ldc_w is, 3) := by rw [hb]; exact d4
  have hstr' : vk_R own is text sa s' := vk_R.warm hW0 hstr
  obtain ⟨U, hsteps, hrun, hend, hW, hsame, ce, hce, hO⟩ := X₁.ctorThrowS hexec htr (own := own) (cls := cls) (names := names) (ic := ic) hown' hcls hnames h (fun x hx => nomatch hx) hfX hkX hcellA (by rw [hhp, hT]; exact Nat.le_refl _) (msg := .ref sa) rfl
    (g := { method := m, pc := pc + 7, locals := ls, stack := .ref sa :: .ref T.heap.size :: .ref T.heap.size :: rest, locked := none }) rfl hsize rfl rfl (rest := rest) rfl
    (by rw [hb]; exact d7) (by rw [hb]; exact d10) hout hRframes (by simp only [List.map_cons, List.sum_cons, hcat]; omega) hlocks
  obtain ⟨f1, f2⟩ := vx_frame hsame
  rw [hhp] at f1 f2
  have hWs : s.WarmedH U.vm := State.WarmedH.trans hW0 hW
  have hcl : s.vm.findClass cls = some ce.cls := by
    have h9 := hO.cls
    rw [hvm] at h9
    exact h9
  have hall : s.sameButNew ({ U with vm := s.vm } : State) locs mc ms := by
    subst hA
    obtain ⟨e1, e2⟩ := hsame
    rw [State.setFrames_setFrames] at e1
    have h2 : (T.setVm s.vm).sameButNew ({ U with vm := s.vm } : State) [] (0 + 1) (0 + 6) := ⟨e1, e2⟩
    have h3 := X.same.trans h2
    rw [List.append_nil] at h3
    exact h3.mono hc hs
  refine ⟨U, ?_, .threw T.heap.size, hrun, hend, Or.inr ⟨T.heap.size, rfl, cls, ce, locs, hx U hWs.alike f1 (fun q hq => f2 q hq (fun z hz => nomatch hz)), hce, hO.vm, hcl, hWs, hall, hf⟩⟩
  refine st1 _ ?_
  show Steps p.tables e below (T1.setTop { method := m, pc := pc + 3, locals := ls, stack := .ref T.heap.size :: rest, locked := none }) _
  jvm_step X₁.here [X₁.here.top, hexec, d3', Value.category]
  exact X₁.ldcStringW hexec (own := own) (text := text) (index := is) (a := sa) hown' hstr'.1 hstr'.2
    (g := { method := m, pc := pc + 4, locals := ls, stack := .ref T.heap.size :: .ref T.heap.size :: rest, locked := none }) rfl d4' _ hsteps
end Ends
section Bodies
variable {l : Launch}
theorem vx_ofW {y : MethodName} {ws ws' : List Cond} {rm : Room} {Pc : Array Value → State → Prop} {Qc : Array Value → State → Outcome → State → Prop} {XC : String → State → State → Prop} {mc ms : Nat} {free : Addr → Prop} {cc : ByteArray} {maxL : Nat} {ret : Option FieldType}
    (hy : plainName y.cls = true) (hw : ws = Cond.code y cc maxL ret :: ws')
    (body : ∀ p e s m args below meth c s₁, BodyLoose p l y (headSpec ws rm) cc maxL ret e s m args below meth c s₁ → c.maxLocals = maxL → (∀ x ∈ c.exceptionTable.toList, False) → Pc args s →
      W p l e (headSpec ws rm).room s m args below meth c s.heap [] 0 0 (vx_MQ below Qc XC args s mc ms free) (entryFrame m args maxL)) : vx_Met l y ws rm Pc Qc XC mc ms free := by
  refine MetFree.of_bodyS (code := cc) (maxLocals := maxL) (ret := ret) hy ?_ ?_
  · intro args s m h hn
    obtain ⟨meth, c, h1, h2, h3, h4, h5, h6, -, -⟩ := Cond.code_spec hn (atoms_spec (ws := ws) h _ (by rw [hw]; exact List.mem_cons_self))
    exact ⟨meth, c, h1, h2, h3, h4, h5, h6⟩
  · intro p e s m args below meth c s₁ B hml hP _
    have hh0 : s₁.heap = s.heap := by rw [B.state]; rfl
    have ht : ∀ x ∈ c.exceptionTable.toList, False := by
      obtain ⟨meth9, c9, h1, h2, -, -, -, -, h7, -⟩ := Cond.code_spec B.named (atoms_spec (ws := ws) B.pre _ (by rw [hw]; exact List.mem_cons_self))
      cases Option.some.inj (h1.symm.trans B.method)
      cases Option.some.inj (h2.symm.trans (Stand.of_body B).code)
      intro x hx
      rw [Array.isEmpty_iff.mp h7] at hx
      cases hx
    obtain ⟨t, a1, o, b1, b2, b3⟩ := body p e s m args below meth c s₁ B hml ht hP s₁ hh0 (Stand.of_body B)
    exact ⟨t, o, a1, b1, b2, b3⟩
/-- the table of a body with handlers -/
theorem vx_table {p : Program} {x y : MethodName} {S : Spec} {cc bytes : ByteArray} {maxL maxL' : Nat} {ret ret' : Option FieldType} {e : Env} {s s₁ : State} {m : MethodId} {args : Array Value} {below : List Frame} {meth : Method} {c : Code} {hh : List (Nat × Nat × Nat × Nat)}
    (B : BodyLoose p l y S cc maxL ret e s m args below meth c s₁) (h : (Cond.codeWith y bytes maxL' ret' hh).before args s = true) : c.exceptionTable.toList = tableOf hh := by
  obtain ⟨m9, meth9, c9, hn9, h1, h2, -, -, h6, -⟩ := Cond.codeWith_spec h
  cases Option.some.inj (hn9.symm.trans B.named)
  cases Option.some.inj (h1.symm.trans B.method)
  cases Option.some.inj (h2.symm.trans (Stand.of_body B).code)
  rw [← h6, table_eq]
end Bodies
end VXA
/-! ===== END ===== -/
/-! ===== BEGIN a static call of a method with an exception table ===== -/
section VXS
variable {p : Program} {l : Launch} {e : Env} {R : Room} {s : State} {m : MethodId} {args : Array Value} {below : List Frame} {meth : Method} {c : Code} {T : State} {H : Heap} {locs : List Loc} {cells slots : Nat}
abbrev vx_CSW (R : Room) (s : State) (args : Array Value) (own : String) (index : Nat) (y : MethodName) (bytes : ByteArray) (maxL : Nat) (ret : Option FieldType) (hh : List (Nat × Nat × Nat × Nat)) (ws : List Cond) (rm : Room) (mc ms n : Nat) : Prop :=
  (rm.cells = mc ∧ rm.slots = ms ∧ rm.frames + 1 ≤ R.frames ∧ 8 + (maxL + 11) + rm.locals ≤ R.locals ∧ (∀ w ∈ ws, ∀ (a' : Array Value) (U : State), s.WarmedH U.vm → w.before a' U = true) ∧ Cond.codeWith y bytes maxL ret hh ∈ ws) ∧
  (Cond.codeWith y bytes maxL ret hh).before args s = true ∧ (Cond.initialized y.cls).before args s = true ∧ (y.cls ≠ "java/lang/invoke/MethodHandle" ∧ y.cls ≠ "java/lang/invoke/VarHandle") ∧
  (∀ sig, parseMethodDescriptor y.desc = some sig → n = sig.parameters.length) ∧ (Cond.methodLink own index y).before args s = true ∧ (Cond.static y).before args s = true
theorem vx_cwSW {own : String} {index maxL mc ms : Nat} {y : MethodName} {bytes : ByteArray} {ret : Option FieldType} {hh : List (Nat × Nat × Nat × Nat)} {Ts ws ws' : List Cond} {rm : Room} (n : Nat) (ht : ∀ w ∈ Ts, w.before args s = true) (hT : GoodIn Ts (va_wsS own index y ws)) (hw : ws = Cond.codeWith y bytes maxL ret hh :: ws') (hrc : rm.cells = mc) (hrs : rm.slots = ms)
    (hd : y.cls ≠ "java/lang/invoke/MethodHandle" ∧ y.cls ≠ "java/lang/invoke/VarHandle" ∧ (parseMethodDescriptor y.desc).map (fun d => d.parameters.length) = some n) (hR : rm.frames + 1 ≤ R.frames ∧ 8 + (maxL + 11) + rm.locals ≤ R.locals) :
    vx_CSW R s args own index y bytes maxL ret hh ws rm mc ms n := by
  have ok : ∀ w ∈ va_wsS own index y ws, w.before args s = true := fun w h => ht w (hT w h).1
  have hG : GoodIn Ts ws := fun w h => hT w (by unfold va_wsS; exact List.mem_append_right _ h)
  have hc : Cond.codeWith y bytes maxL ret hh ∈ ws := by rw [hw]; exact List.mem_cons_self
  refine ⟨⟨hrc, hrs, hR.1, hR.2, pay_in ht hG, hc⟩, ht _ (hG _ hc).1, ok _ (by simp [va_wsS]), ⟨hd.1, hd.2.1⟩, fun sig h => ?_, ok _ (by simp [va_wsS]), ok _ (by simp [va_wsS])⟩
  have h2 := hd.2.2
  rw [h] at h2
  exact (Option.some.inj h2).symm
theorem vx_callSW (X : Stand p l e R s m args below meth c T locs cells slots) (hexec : p.tables.exec = Jvm.exec) {own : String} {index : Nat} {y : MethodName} {bytes : ByteArray} {maxL : Nat} {ret : Option FieldType} {hh : List (Nat × Nat × Nat × Nat)}
    (hown : s.vm.findClass own = some m.cls) (hlink : (Cond.methodLink own index y).before args s = true) (hstat : (Cond.static y).before args s = true) (hinit : (Cond.initialized y.cls).before args s = true)
    (hcode : (Cond.codeWith y bytes maxL ret hh).before args s = true) (hy : y.cls ≠ "java/lang/invoke/MethodHandle" ∧ y.cls ≠ "java/lang/invoke/VarHandle")
    {W9 : Nat} {Pre : Pt → Array Value → Prop} {Post : Pt → Array Value → Option Value → Pt → Prop} (hK : Back l R p e below s args y 3 W9 Pre Post)
    {g : JFrame} (hg : g.method = m) (hsize : g.locals.size = c.maxLocals) {argsL rest : List Value} (hlen : ∀ sig, parseMethodDescriptor y.desc = some sig → argsL.length = sig.parameters.length)
    (hstack : g.stack = argsL.reverse ++ rest) (hW : 2 * g.monitorRoom + (rest.map fun v => v.category).sum ≤ W9) (hdg : decode c.code g.pc = .ok (.invokestatic index, 3))
    (hpre : ∀ vm₁, s.WarmedH vm₁ → Pre ⟨T.setVm vm₁, locs, cells, slots⟩ argsL.toArray) :
    ∃ (v : Option Value) (vm₁ : Vm) (B : Pt), s.WarmedH vm₁ ∧ Stand p l e R s m args below meth c B.U B.locs B.cells B.slots ∧ Post ⟨T.setVm vm₁, locs, cells, slots⟩ argsL.toArray v B ∧
      ∀ target, Steps p.tables e below (B.U.setTop { g with pc := g.pc + 3, stack := v.toList ++ rest }) target → Steps p.tables e below (T.setTop g) target := by
  obtain ⟨mk, methM, cM, hnamed, hmethM, -, -, -, -, -, -, hsigM⟩ := Cond.codeWith_spec hcode
  have hstatic : methM.isStatic = true := Cond.static_spec hnamed hmethM hstat
  obtain ⟨kP, hkP, -⟩ := className_of_methodNamed hnamed
  have hinitP : kP.init = .initialized := Cond.initialized_spec (findClass_of_methodNamed hnamed) hkP hinit
  obtain ⟨vm₁, X₁, hstep₁⟩ := X.invokestatic hexec hown hlink hnamed hmethM hstatic hkP hinitP hy (g := g) hg (argsL := argsL) (rest := rest) (hlen _ hsigM) hstack hdg
  obtain ⟨v, B, X', hpost, hsteps⟩ := hK m meth c ⟨T.setVm vm₁, locs, cells, slots⟩ { g with stack := rest } (.invokestatic index) mk argsL.toArray X₁ hg hsize hdg hW (X₁.named hnamed) (hpre vm₁ X₁.warmed)
  exact ⟨v, vm₁, B, X₁.warmed, X', hpost, fun target h => hstep₁ _ fun acts => by rw [doInvoke_state]; exact hsteps.trans h⟩
theorem vx_runSW {y : MethodName} {bytes cc : ByteArray} {maxL nL mc ms n index : Nat} {ret : Option FieldType} {hh : List (Nat × Nat × Nat × Nat)} {ws : List Cond} {rm : Room} {Pc : Array Value → State → Prop} {Qc : Array Value → State → Outcome → State → Prop} {free : Addr → Prop} {Ts : List Cond} {own : String} {As rest : List Value} {g : JFrame}
    (S : CallFix p m c cc nL s args Ts own) (hM : Met l y ws rm Pc Qc mc ms free) (cw : vx_CSW R s args own index y bytes maxL ret hh ws rm mc ms n) (hp : PreS s H Pc As)
    (hg : g.method = m) (hn : As.length = n) (hsize : g.locals.size = nL) (hstack : g.stack = As.reverse ++ rest) (hW : 2 * g.monitorRoom + (rest.map fun v => v.category).sum ≤ 8) (hdg : decode cc g.pc = .ok (.invokestatic index, 3)) (hf : cells + mc ≤ R.cells ∧ slots + ms ≤ R.slots) :
    va_Run p l e R s m args below meth c H locs cells slots mc ms g rest (Qc As.toArray) (free) := by
  obtain ⟨⟨hrc, hrs, hfr, hlo, hws, hcw⟩, hcode, hini, hy, hlen, hl, hstt⟩ := cw
  have hK : Back l R p e below s args y 3 8 (PreOf R mc ms Pc) (PostOf Qc mc ms free) := va_backW (hh := hh) (bytes := bytes) (maxL := maxL) (ret := ret) hM hp.1 hrc hrs hfr hlo hws hcw (fun a' U hW => word_at hW (Or.inl (by first | rfl | simp [Cond.onTables, Cond.keeps, Cond.steady])) hini)
  obtain ⟨hx, hb, hml, ho, -⟩ := S
  intro T hT X
  obtain ⟨v, vm₁, ⟨U', l2, c2, s2⟩, hW₁, X', ⟨g', mk, t, L, e1, e2, hq, h1, hL, h2, h3⟩, st⟩ := vx_callSW X hx (hh := hh) (bytes := bytes) (maxL := maxL) (ret := ret) ho hl hstt hini hcode hy hK hg (hsize.trans hml.symm) (argsL := As) (rest := rest) (fun sig h => hn.trans (hlen sig h)) hstack hW (by rw [hb]; exact hdg)
    (fun vm₁ hW₁ => ⟨hf.1, hf.2, hp.2 (T.setVm vm₁) hT hW₁⟩)
  dsimp only [Pt.U, Pt.locs, Pt.cells, Pt.slots] at X' e1 e2 h1 h2 h3 st
  subst h1; subst h2; subst h3
  exact ⟨v, (T.setVm vm₁).calling g' mk As.toArray, t, U', L, hT, X', hL, e1, e2, hq, st⟩
/-- not caught here, past rows that name other classes: it goes on to the caller -/
theorem vx_outP {p : Program} {l : Launch} {e : Env} {R : Room} {s : State} {m : MethodId} {args : Array Value} {below : List Frame} {meth : Method} {c : Code} {H : Heap} {locs : List Loc} {cells slots : Nat} {free : Addr → Prop} {ls : Array Slot} {rest : List Value} {Qc : Array Value → State → Outcome → State → Prop} {XC : String → State → State → Prop}
    {pc : Nat} {own E : String} {ce : Cell} {q : Addr} {mc ms : Nat} (hown : s.vm.findClass own = some m.cls) (hlocks : meth.locks = false)
    (hpass : ∀ z ∈ c.exceptionTable.toList, covers z pc = false ∨ (z.catchType ≠ 0 ∧ ∃ nm : String, (Cond.classLink own z.catchType nm).before args s = true ∧ va_Nc E nm s)) (hcell : H[q]? = some ce) (hv : ce.vm = .none) (hcl : s.vm.findClass E = some ce.cls)
    (hx : ∀ t : State, t.heap = H → s.vm.Alike t.vm → XC E s t) (hf : ∀ z ∈ locs, free z.base) (hc : cells ≤ mc) (hs : slots ≤ ms) :
    vx_W p l e R s m args below meth c H locs cells slots (vx_MQ below Qc XC args s mc ms free) (F0 m pc ls rest) q := by
  intro T hT X
  have hpl : e.platform.magicAccessors = ({} : Platform).magicAccessors := by rw [X.admits.platform]
  obtain ⟨vm', hW', X', st⟩ := X.outThrough hlocks q (g := F0 m pc ls rest) rfl rfl rfl (cell := ce) (by rw [hT]; exact hcell) (by rw [hv]; rfl)
    (by obtain ⟨k9, h9, -⟩ := Vm.findClass_spec hcl; exact ⟨k9, h9⟩) (fun z hz => by
      rcases hpass z hz with h | ⟨hz0, nm, hl1, hn1⟩
      · exact Or.inl h
      · obtain ⟨c6, hc6, hcl6⟩ := Cond.classLink_spec hown hl1 e.platform hpl
        obtain ⟨a8, b8, h1, h2, h3⟩ := hn1
        cases Option.some.inj (h1.symm.trans hcl)
        cases Option.some.inj (h2.symm.trans hc6)
        exact Or.inr ⟨hz0, _, hcl6, h3⟩)
  obtain ⟨g₀, hfr⟩ := X'.frames_eq
  have hcell9 : ((T.setVm vm').setFrames (.throwing q :: below)).heap[q]? = some ce := by
    show T.heap[q]? = some ce
    rw [hT]; exact hcell
  have hend : Ended ((T.setVm vm').setFrames (.throwing q :: below)) below (.threw q) := State.frames_setFrames _ (State.cur_lt_of_frames hfr)
  refine ⟨(T.setVm vm').setFrames (.throwing q :: below), ?_, .threw q, X'.here.running, hend, Or.inr ⟨q, rfl, E, ce, locs, hx _ hT (X'.ends _).1.alike, hcell9, hv, hcl, (X'.ends _).1, (X'.ends _).2.mono hc hs, hf⟩⟩
  rw [X.pushThrowing_eq]
  exact st
/-- a thing of a world lies in the heap -/
theorem vx_lt {D : va_G} {cl : List vw_C} {ws : va_W} {H1 : Heap} (h : va_P D cl ws H1) {k : Nat} {q : Nat × va_E} (hk : ws[k]? = some q) : q.1 < H1.size := (h k q hk).lt
end VXS
/-! ===== END ===== -/
/-! ===== BEGIN methods with a table of their own: called by a name, returning or throwing ===== -/
section VXH
/-! vx_backW, vx_callVX, vx_callSX, vx_callVW, vx_runVW, vx_runVX, vx_runSX, vx_ofWH follow the same proofs as their sisters above (Free/Laws.lean, Shelf42/LK1.lean); vx_outP calls Shelf42/NT130.lean (outThrough). -/
section
variable {l : Launch} {R : Room} {p : Program} {e : Env} {below : List Frame} {s : State} {sargs : Array Value} {y : MethodName} {len W9 : Nat}
theorem vx_backW {ws : List Cond} {rm : Room} {Pc : Array Value → State → Prop} {Qc : Array Value → State → Outcome → State → Prop} {XC : String → State → State → Prop} {mc ms : Nat} {free : Addr → Prop} {bytes : ByteArray} {maxL : Nat} {ret : Option FieldType} {hh : List (Nat × Nat × Nat × Nat)}
    (hM : vx_Met l y ws rm Pc Qc XC mc ms free) (hblind : FrameBlind Pc) (hrc : rm.cells = mc) (hrs : rm.slots = ms)
    (hframes : rm.frames + 1 ≤ R.frames) (hlocals : W9 + (maxL + 11) + rm.locals ≤ R.locals)
    (hws : ∀ w ∈ ws, ∀ a' U, s.WarmedH U.vm → w.before a' U = true) (hcode : Cond.codeWith y bytes maxL ret hh ∈ ws) (hinit : ∀ a' U, s.WarmedH U.vm → (Cond.initialized y.cls).before a' U = true) :
    vx_Back l R p e below s sargs y len W9 (PreOf R mc ms Pc) (PostOf Qc mc ms free) (vx_Post XC mc ms free) := by
  intro m meth c A g ig mk a X hg hsize hdg hW hn hp
  have h1 : (headSpec ws rm).pre.before a A.U = true := atoms_intro fun w hw => hws w hw _ _ X.warmed
  have h2 : (Cond.codeWith y bytes maxL ret hh).before a A.U = true := hws _ hcode _ _ X.warmed
  have h3 : (Cond.initialized y.cls).before a A.U = true := hinit _ _ X.warmed
  have h4 : A.cells + (headSpec ws rm).room.cells ≤ R.cells := by rw [show (headSpec ws rm).room.cells = mc from hrc]; exact hp.1
  have h5 : A.slots + (headSpec ws rm).room.slots ≤ R.slots := by rw [show (headSpec ws rm).room.slots = ms from hrs]; exact hp.2.1
  have hPc : Pc a (A.U.calling g mk a) := hblind _ _ _ _ hp.2.2
  obtain ⟨U, Ls, c0, s0⟩ := A
  dsimp only [Pt.U, Pt.locs, Pt.cells, Pt.slots] at h1 h2 h3 h4 h5 X hn hPc ⊢
  obtain ⟨m9, methY, cY, hn9, hmY, hcY, -, hlY, -⟩ := Cond.codeWith_spec h2
  cases Option.some.inj (hn9.symm.trans hn)
  obtain ⟨kY, hkY, -⟩ := className_of_methodNamed hn
  have hinitY : kY.init = .initialized := Cond.initialized_spec (findClass_of_methodNamed hn) hkY h3
  have h : At U g.method c below := by rw [hg]; exact X.here
  have hlocals9 : W9 + (maxL + 11) + (headSpec ws rm).room.locals ≤ R.locals := hlocals
  have happ : (headSpec ws rm).appliesLoose y e.platform (U.calling g mk a) = true :=
    Spec.appliesLoose_calling (g := g) h hdg hn hkY hinitY
      (X.room_calling (g := g) (R' := (headSpec ws rm).room) hsize hmY hcY hframes (by rw [hlY]; omega) h4 h5) h1
  obtain ⟨mid, hmid⟩ := h.above
  have hfr : (U.setTop g).frames = (.java g :: mid) ++ below := by rw [State.frames_setTop' g h.top, hmid]; rfl
  obtain ⟨o, s₂, hsteps, -, hend, hq⟩ := Steps.callFree hM p X.admits X.cas X.clock (acts := []) hfr happ hPc trivial
  have hq' : vx_Q Qc XC mc ms free a (U.calling g mk a) o s₂ := hq
  rw [State.frames_setTop' g h.top] at hend
  obtain ⟨g₀, hg0⟩ := Option.isSome_iff_exists.mp h.top
  obtain ⟨r, hr⟩ := State.topJava?_eq_some.mp hg0
  have hr' : (({ U with heap := s₂.heap, slotsUsed := s₂.slotsUsed } : State).setVm s₂.vm).frames = .java g₀ :: r := hr
  rcases hq' with ⟨hqc, L, hfe, hL⟩ | ⟨q, rfl, E, ce, L, hx, hce, hcv, hcl, hW₂, hsm, hL⟩
  · obtain ⟨⟨v, rfl⟩, hW₂, e2, q2, q3, q4, q5, q6⟩ := id hfe
    have e3 : s₂ = ({ (U.calling g mk a).setFrames s₂.frames with heap := s₂.heap, slotsUsed := s₂.slotsUsed } : State).setVm s₂.vm := by
      have : s₂ = ({ s₂ with vm := (U.calling g mk a).vm } : State).setVm s₂.vm := rfl
      rw [e2] at this
      exact this
    obtain ⟨c₂, i₂, len₂, hc₂, hd₂, hf₂⟩ := hend
    have hW' : U.WarmedH s₂.vm := hW₂
    have hcc : c₂ = c := by
      have h1 : s₂.code? g.method = U.code? g.method := by
        rw [State.code?_eq, State.code?_eq, hW'.alike.method?]
      exact Option.some.inj (hc₂.symm.trans (h1.trans h.code))
    subst hcc
    have hlen : len₂ = len := by rw [hdg] at hd₂; cases hd₂; rfl
    subst hlen
    have hs₂ : s₂ = (({ U with heap := s₂.heap, slotsUsed := s₂.slotsUsed } : State).setVm s₂.vm).setTop { g with pc := g.pc + len₂, stack := v.toList ++ g.stack } := by
      refine e3.trans ?_
      rw [hf₂, State.calling_eq h.top, State.setFrames_setFrames, State.setTop_of_frames _ hr', hr]
      rfl
    have hsame : U.sameButNew ({ U with heap := s₂.heap, slotsUsed := s₂.slotsUsed } : State) L mc ms := by
      refine ⟨?_, q2, q3, q4, q5, q6⟩
      obtain ⟨t, ht, -⟩ := State.frames_cons hr
      show ({ U with heap := s₂.heap, slotsUsed := s₂.slotsUsed } : State) = { U.setFrames U.frames with heap := s₂.heap, slotsUsed := s₂.slotsUsed }
      rw [State.setFrames_self ht]
    subst hg
    refine Or.inl ⟨v, ⟨(({ U with heap := s₂.heap, slotsUsed := s₂.slotsUsed } : State).setVm s₂.vm), Ls ++ L, c0 + mc, s0 + ms⟩,
      ⟨X.admits, X.cas, X.clock, X.frames, X.room, X.hears, X.method, X.code, (X.here.setHeapUsed s₂.heap s₂.slotsUsed).setVm hW'.alike, X.tail, State.WarmedH.trans X.warmed hW', X.limits, X.bytes, X.same.trans (hsame.setVm s.vm)⟩,
      ⟨g, mk, s₂, L, rfl, rfl, hqc, rfl, hL, rfl, rfl⟩, ?_⟩
    show Steps p.tables e below _ ((({ U with heap := s₂.heap, slotsUsed := s₂.slotsUsed } : State).setVm s₂.vm).setTop { g with pc := g.pc + len₂, stack := v.toList ++ g.stack })
    rw [← hs₂]
    exact hsteps
  · obtain ⟨e2, q2, q3, q4, q5, q6⟩ := id hsm
    have e3 : s₂ = ({ (U.calling g mk a).setFrames s₂.frames with heap := s₂.heap, slotsUsed := s₂.slotsUsed } : State).setVm s₂.vm := by
      have : s₂ = ({ s₂ with vm := (U.calling g mk a).vm } : State).setVm s₂.vm := rfl
      rw [e2] at this
      exact this
    have hf₂ : s₂.frames = .throwing q :: .java g :: U.frames.tail := hend
    have hW' : U.WarmedH s₂.vm := hW₂
    have hs₂ : s₂ = ((({ U with heap := s₂.heap, slotsUsed := s₂.slotsUsed } : State).setVm s₂.vm).setTop g).pushFrame (.throwing q) := by
      refine e3.trans ?_
      rw [hf₂, State.calling_eq h.top, State.setFrames_setFrames, State.pushFrame, State.frames_setTop _ hr', State.setTop_of_frames _ hr', State.setFrames_setFrames, hr]
      rfl
    have hsame : U.sameButNew ({ U with heap := s₂.heap, slotsUsed := s₂.slotsUsed } : State) L mc ms := by
      refine ⟨?_, q2, q3, q4, q5, q6⟩
      obtain ⟨t, ht, -⟩ := State.frames_cons hr
      show ({ U with heap := s₂.heap, slotsUsed := s₂.slotsUsed } : State) = { U.setFrames U.frames with heap := s₂.heap, slotsUsed := s₂.slotsUsed }
      rw [State.setFrames_self ht]
    subst hg
    refine Or.inr ⟨q, ⟨(({ U with heap := s₂.heap, slotsUsed := s₂.slotsUsed } : State).setVm s₂.vm), Ls ++ L, c0 + mc, s0 + ms⟩,
      ⟨X.admits, X.cas, X.clock, X.frames, X.room, X.hears, X.method, X.code, (X.here.setHeapUsed s₂.heap s₂.slotsUsed).setVm hW'.alike, X.tail, State.WarmedH.trans X.warmed hW', X.limits, X.bytes, X.same.trans (hsame.setVm s.vm)⟩,
      ⟨g, mk, s₂, L, E, ce, rfl, rfl, hx, hce, hcv, hcl, rfl, hL, rfl, rfl⟩, ?_⟩
    show Steps p.tables e below _ (((({ U with heap := s₂.heap, slotsUsed := s₂.slotsUsed } : State).setVm s₂.vm).setTop g).pushFrame (.throwing q))
    rw [← hs₂]
    exact hsteps
end
variable {p : Program} {l : Launch} {e : Env} {R : Room} {s : State} {m : MethodId} {args : Array Value} {below : List Frame} {meth : Method} {c : Code} {T : State} {H : Heap} {locs : List Loc} {cells slots : Nat}
theorem vx_callVX (X : Stand p l e R s m args below meth c T locs cells slots) (hexec : p.tables.exec = Jvm.exec) {own C : String} {index : Nat} {y : MethodName} {bytes : ByteArray} {maxL : Nat} {ret : Option FieldType} {hh : List (Nat × Nat × Nat × Nat)}
    (hown : s.vm.findClass own = some m.cls) (hlink : (Cond.methodLink own index y).before args s = true) (hinst : (Cond.instanceMethod y).before args s = true) (hsel : (Cond.selects C y y).before args s = true)
    (hcode : (Cond.codeWith y bytes maxL ret hh).before args s = true) (hy : y.cls ≠ "java/lang/invoke/MethodHandle" ∧ y.cls ≠ "java/lang/invoke/VarHandle")
    {W9 : Nat} {Pre : Pt → Array Value → Prop} {Post : Pt → Array Value → Option Value → Pt → Prop} {PostX : Pt → Array Value → Addr → Pt → Prop} (hK : vx_Back l R p e below s args y 3 W9 Pre Post PostX)
    {b : Addr} {cellB : Cell} (hcell : T.heap[b]? = some cellB) (hobj : cellB.vm.isStatics = false) (hcls : s.vm.findClass C = some cellB.cls)
    {g : JFrame} (hg : g.method = m) (hsize : g.locals.size = c.maxLocals) {argsL rest : List Value} (hlen : ∀ sig, parseMethodDescriptor y.desc = some sig → argsL.length = sig.parameters.length)
    (hstack : g.stack = argsL.reverse ++ .ref b :: rest) (hW : 2 * g.monitorRoom + (rest.map fun v => v.category).sum ≤ W9) (hdg : decode c.code g.pc = .ok (.invokevirtual index, 3))
    (hpre : ∀ vm₁, s.WarmedH vm₁ → Pre ⟨T.setVm vm₁, locs, cells, slots⟩ (Value.ref b :: argsL).toArray) :
    (∃ (v : Option Value) (vm₁ : Vm) (B : Pt), s.WarmedH vm₁ ∧ Stand p l e R s m args below meth c B.U B.locs B.cells B.slots ∧ Post ⟨T.setVm vm₁, locs, cells, slots⟩ (Value.ref b :: argsL).toArray v B ∧
      ∀ target, Steps p.tables e below (B.U.setTop { g with pc := g.pc + 3, stack := v.toList ++ rest }) target → Steps p.tables e below (T.setTop g) target) ∨
    (∃ (q : Addr) (vm₁ : Vm) (B : Pt), s.WarmedH vm₁ ∧ Stand p l e R s m args below meth c B.U B.locs B.cells B.slots ∧ PostX ⟨T.setVm vm₁, locs, cells, slots⟩ (Value.ref b :: argsL).toArray q B ∧
      Steps p.tables e below (T.setTop g) ((B.U.setTop { g with stack := rest }).pushFrame (.throwing q))) := by
  obtain ⟨mk, methM, hnamed, hmethM, hstM, habM⟩ := Cond.instanceMethod_spec hinst
  obtain ⟨m8, methM', cM, hn8, hmethM', -, -, -, -, -, -, hsigM⟩ := Cond.codeWith_spec hcode
  cases Option.some.inj (hn8.symm.trans hnamed)
  cases hmethM.symm.trans hmethM'
  obtain ⟨c2, r2, m2, q1, q2, q3, q4, kP, hkP, hkPi⟩ := Cond.selects_spec hsel
  cases hcls.symm.trans q1
  cases (State.methodFound?_of_named hnamed hy).symm.trans q2
  cases hnamed.symm.trans q3
  have hselP : selectMethod e.platform s.vm cellB.cls mk = .method mk := by rw [Launch.admits_selectMethod X.admits]; exact q4
  obtain ⟨vm₁, X₁, hstep₁⟩ := X.invokevirtual hexec hown hlink hnamed hmethM hstM hkP hkPi hy (a := b) (cell := cellB) hcell
    (fun z h => by rw [h] at hobj; cases hobj) hselP hmethM habM hkP hkPi (g := g) hg (argsL := argsL) (rest := rest) (hlen _ hsigM) hstack hdg
  rcases hK m meth c ⟨T.setVm vm₁, locs, cells, slots⟩ { g with stack := rest } (.invokevirtual index) mk (Value.ref b :: argsL).toArray X₁ hg hsize hdg hW (X₁.named hnamed) (hpre vm₁ X₁.warmed) with ⟨v, B, X', hpost, hsteps⟩ | ⟨q, B, X', hpost, hsteps⟩
  · exact Or.inl ⟨v, vm₁, B, X₁.warmed, X', hpost, fun target h => hstep₁ _ fun acts => by rw [doInvoke_state]; exact hsteps.trans h⟩
  · exact Or.inr ⟨q, vm₁, B, X₁.warmed, X', hpost, hstep₁ _ fun acts => by rw [doInvoke_state]; exact hsteps⟩
theorem vx_callSX (X : Stand p l e R s m args below meth c T locs cells slots) (hexec : p.tables.exec = Jvm.exec) {own : String} {index : Nat} {y : MethodName} {bytes : ByteArray} {maxL : Nat} {ret : Option FieldType} {hh : List (Nat × Nat × Nat × Nat)}
    (hown : s.vm.findClass own = some m.cls) (hlink : (Cond.methodLink own index y).before args s = true) (hstat : (Cond.static y).before args s = true) (hinit : (Cond.initialized y.cls).before args s = true)
    (hcode : (Cond.codeWith y bytes maxL ret hh).before args s = true) (hy : y.cls ≠ "java/lang/invoke/MethodHandle" ∧ y.cls ≠ "java/lang/invoke/VarHandle")
    {W9 : Nat} {Pre : Pt → Array Value → Prop} {Post : Pt → Array Value → Option Value → Pt → Prop} {PostX : Pt → Array Value → Addr → Pt → Prop} (hK : vx_Back l R p e below s args y 3 W9 Pre Post PostX)
    {g : JFrame} (hg : g.method = m) (hsize : g.locals.size = c.maxLocals) {argsL rest : List Value} (hlen : ∀ sig, parseMethodDescriptor y.desc = some sig → argsL.length = sig.parameters.length)
    (hstack : g.stack = argsL.reverse ++ rest) (hW : 2 * g.monitorRoom + (rest.map fun v => v.category).sum ≤ W9) (hdg : decode c.code g.pc = .ok (.invokestatic index, 3))
    (hpre : ∀ vm₁, s.WarmedH vm₁ → Pre ⟨T.setVm vm₁, locs, cells, slots⟩ argsL.toArray) :
    (∃ (v : Option Value) (vm₁ : Vm) (B : Pt), s.WarmedH vm₁ ∧ Stand p l e R s m args below meth c B.U B.locs B.cells B.slots ∧ Post ⟨T.setVm vm₁, locs, cells, slots⟩ argsL.toArray v B ∧
      ∀ target, Steps p.tables e below (B.U.setTop { g with pc := g.pc + 3, stack := v.toList ++ rest }) target → Steps p.tables e below (T.setTop g) target) ∨
    (∃ (q : Addr) (vm₁ : Vm) (B : Pt), s.WarmedH vm₁ ∧ Stand p l e R s m args below meth c B.U B.locs B.cells B.slots ∧ PostX ⟨T.setVm vm₁, locs, cells, slots⟩ argsL.toArray q B ∧
      Steps p.tables e below (T.setTop g) ((B.U.setTop { g with stack := rest }).pushFrame (.throwing q))) := by
  obtain ⟨mk, methM, cM, hnamed, hmethM, -, -, -, -, -, -, hsigM⟩ := Cond.codeWith_spec hcode
  have hstatic : methM.isStatic = true := Cond.static_spec hnamed hmethM hstat
  obtain ⟨kP, hkP, -⟩ := className_of_methodNamed hnamed
  have hinitP : kP.init = .initialized := Cond.initialized_spec (findClass_of_methodNamed hnamed) hkP hinit
  obtain ⟨vm₁, X₁, hstep₁⟩ := X.invokestatic hexec hown hlink hnamed hmethM hstatic hkP hinitP hy (g := g) hg (argsL := argsL) (rest := rest) (hlen _ hsigM) hstack hdg
  rcases hK m meth c ⟨T.setVm vm₁, locs, cells, slots⟩ { g with stack := rest } (.invokestatic index) mk argsL.toArray X₁ hg hsize hdg hW (X₁.named hnamed) (hpre vm₁ X₁.warmed) with ⟨v, B, X', hpost, hsteps⟩ | ⟨q, B, X', hpost, hsteps⟩
  · exact Or.inl ⟨v, vm₁, B, X₁.warmed, X', hpost, fun target h => hstep₁ _ fun acts => by rw [doInvoke_state]; exact hsteps.trans h⟩
  · exact Or.inr ⟨q, vm₁, B, X₁.warmed, X', hpost, hstep₁ _ fun acts => by rw [doInvoke_state]; exact hsteps⟩
theorem vx_callVW (X : Stand p l e R s m args below meth c T locs cells slots) (hexec : p.tables.exec = Jvm.exec) {own C : String} {index : Nat} {y : MethodName} {bytes : ByteArray} {maxL : Nat} {ret : Option FieldType} {hh : List (Nat × Nat × Nat × Nat)}
    (hown : s.vm.findClass own = some m.cls) (hlink : (Cond.methodLink own index y).before args s = true) (hinst : (Cond.instanceMethod y).before args s = true) (hsel : (Cond.selects C y y).before args s = true)
    (hcode : (Cond.codeWith y bytes maxL ret hh).before args s = true) (hy : y.cls ≠ "java/lang/invoke/MethodHandle" ∧ y.cls ≠ "java/lang/invoke/VarHandle")
    {W9 : Nat} {Pre : Pt → Array Value → Prop} {Post : Pt → Array Value → Option Value → Pt → Prop} (hK : Back l R p e below s args y 3 W9 Pre Post)
    {b : Addr} {cellB : Cell} (hcell : T.heap[b]? = some cellB) (hobj : cellB.vm.isStatics = false) (hcls : s.vm.findClass C = some cellB.cls)
    {g : JFrame} (hg : g.method = m) (hsize : g.locals.size = c.maxLocals) {argsL rest : List Value} (hlen : ∀ sig, parseMethodDescriptor y.desc = some sig → argsL.length = sig.parameters.length)
    (hstack : g.stack = argsL.reverse ++ .ref b :: rest) (hW : 2 * g.monitorRoom + (rest.map fun v => v.category).sum ≤ W9) (hdg : decode c.code g.pc = .ok (.invokevirtual index, 3))
    (hpre : ∀ vm₁, s.WarmedH vm₁ → Pre ⟨T.setVm vm₁, locs, cells, slots⟩ (Value.ref b :: argsL).toArray) :
    ∃ (v : Option Value) (vm₁ : Vm) (B : Pt), s.WarmedH vm₁ ∧ Stand p l e R s m args below meth c B.U B.locs B.cells B.slots ∧ Post ⟨T.setVm vm₁, locs, cells, slots⟩ (Value.ref b :: argsL).toArray v B ∧
      ∀ target, Steps p.tables e below (B.U.setTop { g with pc := g.pc + 3, stack := v.toList ++ rest }) target → Steps p.tables e below (T.setTop g) target := by
  obtain ⟨mk, methM, hnamed, hmethM, hstM, habM⟩ := Cond.instanceMethod_spec hinst
  obtain ⟨m8, methM', cM, hn8, hmethM', -, -, -, -, -, -, hsigM⟩ := Cond.codeWith_spec hcode
  cases Option.some.inj (hn8.symm.trans hnamed)
  cases hmethM.symm.trans hmethM'
  obtain ⟨c2, r2, m2, q1, q2, q3, q4, kP, hkP, hkPi⟩ := Cond.selects_spec hsel
  cases hcls.symm.trans q1
  cases (State.methodFound?_of_named hnamed hy).symm.trans q2
  cases hnamed.symm.trans q3
  have hselP : selectMethod e.platform s.vm cellB.cls mk = .method mk := by rw [Launch.admits_selectMethod X.admits]; exact q4
  obtain ⟨vm₁, X₁, hstep₁⟩ := X.invokevirtual hexec hown hlink hnamed hmethM hstM hkP hkPi hy (a := b) (cell := cellB) hcell
    (fun z h => by rw [h] at hobj; cases hobj) hselP hmethM habM hkP hkPi (g := g) hg (argsL := argsL) (rest := rest) (hlen _ hsigM) hstack hdg
  obtain ⟨v, B, X', hpost, hsteps⟩ := hK m meth c ⟨T.setVm vm₁, locs, cells, slots⟩ { g with stack := rest } (.invokevirtual index) mk (Value.ref b :: argsL).toArray X₁ hg hsize hdg hW (X₁.named hnamed) (hpre vm₁ X₁.warmed)
  exact ⟨v, vm₁, B, X₁.warmed, X', hpost, fun target h => hstep₁ _ fun acts => by rw [doInvoke_state]; exact hsteps.trans h⟩
abbrev vx_CVW (R : Room) (s : State) (args : Array Value) (own C : String) (index : Nat) (y : MethodName) (bytes : ByteArray) (maxL : Nat) (ret : Option FieldType) (hh : List (Nat × Nat × Nat × Nat)) (ws : List Cond) (rm : Room) (mc ms n : Nat) : Prop :=
  (rm.cells = mc ∧ rm.slots = ms ∧ rm.frames + 1 ≤ R.frames ∧ 8 + (maxL + 11) + rm.locals ≤ R.locals ∧ (∀ w ∈ ws, ∀ (a' : Array Value) (U : State), s.WarmedH U.vm → w.before a' U = true) ∧ Cond.codeWith y bytes maxL ret hh ∈ ws) ∧
  (Cond.codeWith y bytes maxL ret hh).before args s = true ∧ (Cond.initialized y.cls).before args s = true ∧ (y.cls ≠ "java/lang/invoke/MethodHandle" ∧ y.cls ≠ "java/lang/invoke/VarHandle") ∧
  (∀ sig, parseMethodDescriptor y.desc = some sig → n = sig.parameters.length) ∧ (Cond.methodLink own index y).before args s = true ∧ (Cond.instanceMethod y).before args s = true ∧ (Cond.selects C y y).before args s = true
theorem vx_cwVW {own C : String} {index maxL mc ms : Nat} {y : MethodName} {bytes : ByteArray} {ret : Option FieldType} {hh : List (Nat × Nat × Nat × Nat)} {Ts ws ws' : List Cond} {rm : Room} (n : Nat) (ht : ∀ w ∈ Ts, w.before args s = true) (hT : GoodIn Ts (wsV own index C y ws)) (hw : ws = Cond.codeWith y bytes maxL ret hh :: ws') (hrc : rm.cells = mc) (hrs : rm.slots = ms)
    (hd : y.cls = C ∧ y.cls ≠ "java/lang/invoke/MethodHandle" ∧ y.cls ≠ "java/lang/invoke/VarHandle" ∧ (parseMethodDescriptor y.desc).map (fun d => d.parameters.length) = some n) (hR : rm.frames + 1 ≤ R.frames ∧ 8 + (maxL + 11) + rm.locals ≤ R.locals) :
    vx_CVW R s args own C index y bytes maxL ret hh ws rm mc ms n := by
  obtain ⟨hC, hd⟩ := hd
  subst hC
  have ok : ∀ w ∈ wsV own index y.cls y ws, w.before args s = true := fun w h => ht w (hT w h).1
  have hG : GoodIn Ts ws := fun w h => hT w (by unfold wsV; exact List.mem_append_right _ h)
  have hc : Cond.codeWith y bytes maxL ret hh ∈ ws := by rw [hw]; exact List.mem_cons_self
  refine ⟨⟨hrc, hrs, hR.1, hR.2, pay_in ht hG, hc⟩, ht _ (hG _ hc).1, ok _ (by simp [wsV]), ⟨hd.1, hd.2.1⟩, fun sig h => ?_, ok _ (by simp [wsV]), ok _ (by simp [wsV]), ok _ (by simp [wsV])⟩
  have h2 := hd.2.2
  rw [h] at h2
  exact (Option.some.inj h2).symm
theorem vx_runVW {y : MethodName} {bytes cc : ByteArray} {maxL nL mc ms n index : Nat} {ret : Option FieldType} {hh : List (Nat × Nat × Nat × Nat)} {ws : List Cond} {rm : Room} {Pc : Array Value → State → Prop} {Qc : Array Value → State → Outcome → State → Prop} {free : Addr → Prop} {Ts : List Cond} {own C : String} {b : Addr} {As rest : List Value} {g : JFrame}
    (S : CallFix p m c cc nL s args Ts own) (hM : Met l y ws rm Pc Qc mc ms free) (cw : vx_CVW R s args own C index y bytes maxL ret hh ws rm mc ms n) (hp : PreV s H C b Pc As)
    (hg : g.method = m) (hn : As.length = n) (hsize : g.locals.size = nL) (hstack : g.stack = As.reverse ++ .ref b :: rest) (hW : 2 * g.monitorRoom + (rest.map fun v => v.category).sum ≤ 8) (hdg : decode cc g.pc = .ok (.invokevirtual index, 3)) (hf : cells + mc ≤ R.cells ∧ slots + ms ≤ R.slots) :
    va_Run p l e R s m args below meth c H locs cells slots mc ms g rest (Qc (Value.ref b :: As).toArray) free := by
  obtain ⟨⟨hrc, hrs, hfr, hlo, hws, hcw⟩, hcode, hini, hy, hlen, hl, hin, hse⟩ := cw
  have hK : Back l R p e below s args y 3 8 (PreOf R mc ms Pc) (PostOf Qc mc ms free) := va_backW (hh := hh) (bytes := bytes) (maxL := maxL) (ret := ret) hM hp.1 hrc hrs hfr hlo hws hcw (fun a' U hW => word_at hW (Or.inl (by first | rfl | simp [Cond.onTables, Cond.keeps, Cond.steady])) hini)
  obtain ⟨hx, hb, hml, ho, -⟩ := S
  obtain ⟨-, ⟨cellB, hcB, hoB, hclB⟩, hPc⟩ := hp
  intro T hT X
  obtain ⟨v, vm₁, ⟨U', l2, c2, s2⟩, hW₁, X', ⟨g', mk, t, L, e1, e2, hq, h1, hL, h2, h3⟩, st⟩ := vx_callVW X hx (C := C) (hh := hh) (bytes := bytes) (maxL := maxL) (ret := ret) ho hl hin hse hcode hy hK (by rw [hT]; exact hcB) hoB hclB hg (hsize.trans hml.symm) (argsL := As) (rest := rest) (fun sig h => hn.trans (hlen sig h)) hstack hW (by rw [hb]; exact hdg)
    (fun vm₁ hW₁ => ⟨hf.1, hf.2, hPc (T.setVm vm₁) hT hW₁⟩)
  dsimp only [Pt.U, Pt.locs, Pt.cells, Pt.slots] at X' e1 e2 h1 h2 h3 st
  subst h1; subst h2; subst h3
  exact ⟨v, (T.setVm vm₁).calling g' mk (Value.ref b :: As).toArray, t, U', L, hT, X', hL, e1, e2, hq, st⟩
section
variable {y : MethodName} {bytes cc : ByteArray} {maxL nL mc ms n index : Nat} {ret : Option FieldType} {ws : List Cond} {rm : Room} {Pc : Array Value → State → Prop} {Qc : Array Value → State → Outcome → State → Prop} {XC : String → State → State → Prop} {free : Addr → Prop} {Ts : List Cond} {own C : String} {b : Addr} {As rest : List Value} {g : JFrame}
theorem vx_runVX {hh : List (Nat × Nat × Nat × Nat)} (S : CallFix p m c cc nL s args Ts own) (hM : vx_Met l y ws rm Pc Qc XC mc ms free) (cw : vx_CVW R s args own C index y bytes maxL ret hh ws rm mc ms n) (hp : PreV s H C b Pc As)
    (hg : g.method = m) (hn : As.length = n) (hsize : g.locals.size = nL) (hstack : g.stack = As.reverse ++ .ref b :: rest) (hW : 2 * g.monitorRoom + (rest.map fun v => v.category).sum ≤ 8) (hdg : decode cc g.pc = .ok (.invokevirtual index, 3)) (hf : cells + mc ≤ R.cells ∧ slots + ms ≤ R.slots) :
    vx_Run p l e R s m args below meth c H locs cells slots mc ms g rest (Qc (Value.ref b :: As).toArray) XC free := by
  obtain ⟨⟨hrc, hrs, hfr, hlo, hws, hcw⟩, hcode, hini, hy, hlen, hl, hin, hse⟩ := cw
  have hK : vx_Back l R p e below s args y 3 8 (PreOf R mc ms Pc) (PostOf Qc mc ms free) (vx_Post XC mc ms free) := vx_backW (hh := hh) (bytes := bytes) (maxL := maxL) (ret := ret) hM hp.1 hrc hrs hfr hlo hws hcw (fun a' U hW => word_at hW (Or.inl (by first | rfl | simp [Cond.onTables, Cond.keeps, Cond.steady])) hini)
  obtain ⟨hx, hb, hml, ho, -⟩ := S
  obtain ⟨-, ⟨cellB, hcB, hoB, hclB⟩, hPc⟩ := hp
  intro T hT X
  rcases vx_callVX X hx (C := C) (hh := hh) (bytes := bytes) (maxL := maxL) (ret := ret) ho hl hin hse hcode hy hK (by rw [hT]; exact hcB) hoB hclB hg (hsize.trans hml.symm) (argsL := As) (rest := rest) (fun sig h => hn.trans (hlen sig h)) hstack hW (by rw [hb]; exact hdg)
    (fun vm₁ hW₁ => ⟨hf.1, hf.2, hPc (T.setVm vm₁) hT hW₁⟩) with ⟨v, vm₁, ⟨U', l2, c2, s2⟩, hW₁, X', ⟨g', mk, t, L, e1, e2, hq, h1, hL, h2, h3⟩, st⟩ | ⟨q, vm₁, ⟨U', l2, c2, s2⟩, hW₁, X', ⟨g', mk, t, L, E, ce, e1, e2, hq, hce, hcv, hcl, h1, hL, h2, h3⟩, st⟩
  · dsimp only [Pt.U, Pt.locs, Pt.cells, Pt.slots] at X' e1 e2 h1 h2 h3 st
    subst h1; subst h2; subst h3
    exact Or.inl ⟨v, (T.setVm vm₁).calling g' mk (Value.ref b :: As).toArray, t, U', L, hT, X', hL, e1, e2, hq, st⟩
  · dsimp only [Pt.U, Pt.locs, Pt.cells, Pt.slots] at X' e1 e2 h1 h2 h3 st hcl
    subst h1; subst h2; subst h3
    exact Or.inr ⟨q, (T.setVm vm₁).calling g' mk (Value.ref b :: As).toArray, t, U', L, E, ce, hT, X', hL, e1, e2, hq, hce, hcv, vx_cls hW₁ hcl, st⟩
theorem vx_runSX {hh : List (Nat × Nat × Nat × Nat)} (S : CallFix p m c cc nL s args Ts own) (hM : vx_Met l y ws rm Pc Qc XC mc ms free) (cw : vx_CSW R s args own index y bytes maxL ret hh ws rm mc ms n) (hp : PreS s H Pc As)
    (hg : g.method = m) (hn : As.length = n) (hsize : g.locals.size = nL) (hstack : g.stack = As.reverse ++ rest) (hW : 2 * g.monitorRoom + (rest.map fun v => v.category).sum ≤ 8) (hdg : decode cc g.pc = .ok (.invokestatic index, 3)) (hf : cells + mc ≤ R.cells ∧ slots + ms ≤ R.slots) :
    vx_Run p l e R s m args below meth c H locs cells slots mc ms g rest (Qc As.toArray) XC free := by
  obtain ⟨⟨hrc, hrs, hfr, hlo, hws, hcw⟩, hcode, hini, hy, hlen, hl, hstt⟩ := cw
  have hK : vx_Back l R p e below s args y 3 8 (PreOf R mc ms Pc) (PostOf Qc mc ms free) (vx_Post XC mc ms free) := vx_backW (hh := hh) (bytes := bytes) (maxL := maxL) (ret := ret) hM hp.1 hrc hrs hfr hlo hws hcw (fun a' U hW => word_at hW (Or.inl (by first | rfl | simp [Cond.onTables, Cond.keeps, Cond.steady])) hini)
  obtain ⟨hx, hb, hml, ho, -⟩ := S
  intro T hT X
  rcases vx_callSX X hx (hh := hh) (bytes := bytes) (maxL := maxL) (ret := ret) ho hl hstt hini hcode hy hK hg (hsize.trans hml.symm) (argsL := As) (rest := rest) (fun sig h => hn.trans (hlen sig h)) hstack hW (by rw [hb]; exact hdg)
    (fun vm₁ hW₁ => ⟨hf.1, hf.2, hp.2 (T.setVm vm₁) hT hW₁⟩) with ⟨v, vm₁, ⟨U', l2, c2, s2⟩, hW₁, X', ⟨g', mk, t, L, e1, e2, hq, h1, hL, h2, h3⟩, st⟩ | ⟨q, vm₁, ⟨U', l2, c2, s2⟩, hW₁, X', ⟨g', mk, t, L, E, ce, e1, e2, hq, hce, hcv, hcl, h1, hL, h2, h3⟩, st⟩
  · dsimp only [Pt.U, Pt.locs, Pt.cells, Pt.slots] at X' e1 e2 h1 h2 h3 st
    subst h1; subst h2; subst h3
    exact Or.inl ⟨v, (T.setVm vm₁).calling g' mk As.toArray, t, U', L, hT, X', hL, e1, e2, hq, st⟩
  · dsimp only [Pt.U, Pt.locs, Pt.cells, Pt.slots] at X' e1 e2 h1 h2 h3 st hcl
    subst h1; subst h2; subst h3
    exact Or.inr ⟨q, (T.setVm vm₁).calling g' mk As.toArray, t, U', L, E, ce, hT, X', hL, e1, e2, hq, hce, hcv, vx_cls hW₁ hcl, st⟩
end
end VXH
theorem vx_ofWH {l : Launch} {y : MethodName} {ws ws' : List Cond} {rm : Room} {Pc : Array Value → State → Prop} {Qc : Array Value → State → Outcome → State → Prop} {XC : String → State → State → Prop} {mc ms : Nat} {free : Addr → Prop} {cc : ByteArray} {maxL : Nat} {ret : Option FieldType} {hh : List (Nat × Nat × Nat × Nat)}
    (hy : plainName y.cls = true) (hw : ws = Cond.codeWith y cc maxL ret hh :: ws')
    (body : ∀ p e s m args below meth c s₁, BodyLoose p l y (headSpec ws rm) cc maxL ret e s m args below meth c s₁ → c.maxLocals = maxL → Pc args s →
      W p l e (headSpec ws rm).room s m args below meth c s.heap [] 0 0 (vx_MQ below Qc XC args s mc ms free) (entryFrame m args maxL)) : vx_Met l y ws rm Pc Qc XC mc ms free := by
  refine MetFree.of_bodyS (code := cc) (maxLocals := maxL) (ret := ret) hy ?_ ?_
  · intro args s m h hn
    obtain ⟨m9, meth, c, hn9, h1, h2, h3, h4, -, h5, h6, -⟩ := Cond.codeWith_spec (atoms_spec (ws := ws) h _ (by rw [hw]; exact List.mem_cons_self))
    cases hn.symm.trans hn9
    exact ⟨meth, c, h1, h2, h3, h4, h5, h6⟩
  · intro p e s m args below meth c s₁ B hml hP _
    have hh0 : s₁.heap = s.heap := by rw [B.state]; rfl
    obtain ⟨t, a1, o, b1, b2, b3⟩ := body p e s m args below meth c s₁ B hml hP s₁ hh0 (Stand.of_body B)
    exact ⟨t, o, a1, b1, b2, b3⟩
/-! ===== END ===== -/

/-! ===== BEGIN printed: names, fields, word lists, decode rows ===== -/
end
section
def RX0 : String := "Grievancehall$Act"
def TX0 : u_T := fun k => match k with
  | 0 => ("Grievancehall$Act", "owner", "I", false)
  | 1 => ("Grievancehall$Act", "kind", "I", false)
  | 2 => ("Grievancehall$Act", "day", "I", false)
  | 3 => ("Grievancehall$Act", "measure", "I", false)
  | 4 => ("Grievancehall$Act", "harm", "I", false)
  | 5 => ("Grievancehall$Act", "inCourt", "Z", false)
  | 6 => ("Grievancehall$Act", "timeWaived", "Z", false)
  | 7 => ("Grievancehall$Act", "remedySum", "I", false)
  | _ => ("Grievancehall$Act", "pleaDays", "[I", true)
def tyX0 : Nat → FieldType := fun k => match k with
  | 0 => .int
  | 1 => .int
  | 2 => .int
  | 3 => .int
  | 4 => .int
  | 5 => .boolean
  | 6 => .boolean
  | 7 => .int
  | _ => .array .int
abbrev wsX00 : List Cond := u_ws RX0 TX0 9
theorem nmX0 : ∀ a, a < 9 → ∀ b, b < 9 → a ≠ b → (TX0 a).2.1 ≠ (TX0 b).2.1 := by decide +kernel
theorem tyX0_ok : ∀ k, k < 9 → parseFieldDescriptor (TX0 k).2.2.1 = some (tyX0 k) := by decide +kernel
abbrev cX0_init : ByteArray := prog_2_method_1_code
def yX0_init : MethodName := ⟨RX0, "<init>", "()V"⟩
abbrev cX0_begin : ByteArray := prog_2_method_2_code
def yX0_begin : MethodName := ⟨RX0, "begin", "(IIIII)V"⟩
abbrev cX0_barOn : ByteArray := prog_2_method_3_code
def yX0_barOn : MethodName := ⟨RX0, "barOn", "(II)I"⟩
abbrev cX0_giveRemedy : ByteArray := prog_2_method_4_code
def yX0_giveRemedy : MethodName := ⟨RX0, "giveRemedy", "(I)V"⟩
def RX1 : String := "Grievancehall$Changes"
def TX1 : u_T := fun k => match k with
  | 0 => ("Grievancehall$Changes", "things", "[I", true)
  | 1 => ("Grievancehall$Changes", "days", "[I", true)
  | 2 => ("Grievancehall$Changes", "values", "[I", true)
  | _ => ("Grievancehall$Changes", "count", "I", false)
def tyX1 : Nat → FieldType := fun k => match k with
  | 0 => .array .int
  | 1 => .array .int
  | 2 => .array .int
  | _ => .int
abbrev wsX10 : List Cond := u_ws RX1 TX1 4
theorem nmX1 : ∀ a, a < 4 → ∀ b, b < 4 → a ≠ b → (TX1 a).2.1 ≠ (TX1 b).2.1 := by decide +kernel
theorem tyX1_ok : ∀ k, k < 4 → parseFieldDescriptor (TX1 k).2.2.1 = some (tyX1 k) := by decide +kernel
abbrev cX1_init : ByteArray := prog_3_method_1_code
def yX1_init : MethodName := ⟨RX1, "<init>", "()V"⟩
abbrev cX1_valueOn : ByteArray := prog_3_method_2_code
def yX1_valueOn : MethodName := ⟨RX1, "valueOn", "(III)I"⟩
abbrev cX1_tell : ByteArray := prog_3_method_3_code
def yX1_tell : MethodName := ⟨RX1, "tell", "(III)V"⟩
def RX2 : String := "Grievancehall$Complaint"
def TX2 : u_T := fun k => match k with
  | 0 => ("Grievancehall$Complaint", "actNumber", "I", false)
  | 1 => ("Grievancehall$Complaint", "state", "I", false)
  | 2 => ("Grievancehall$Complaint", "daysLeft", "I", false)
  | 3 => ("Grievancehall$Complaint", "people", "I", false)
  | 4 => ("Grievancehall$Complaint", "file", "I", false)
  | 5 => ("Grievancehall$Complaint", "askedDay", "I", false)
  | 6 => ("Grievancehall$Complaint", "officerHeard", "Z", false)
  | _ => ("Grievancehall$Complaint", "finding", "I", false)
def tyX2 : Nat → FieldType := fun k => match k with
  | 0 => .int
  | 1 => .int
  | 2 => .int
  | 3 => .int
  | 4 => .int
  | 5 => .int
  | 6 => .boolean
  | _ => .int
abbrev wsX20 : List Cond := u_ws RX2 TX2 8
theorem nmX2 : ∀ a, a < 8 → ∀ b, b < 8 → a ≠ b → (TX2 a).2.1 ≠ (TX2 b).2.1 := by decide +kernel
theorem tyX2_ok : ∀ k, k < 8 → parseFieldDescriptor (TX2 k).2.2.1 = some (tyX2 k) := by decide +kernel
abbrev cX2_init : ByteArray := prog_4_method_1_code
def yX2_init : MethodName := ⟨RX2, "<init>", "()V"⟩
abbrev cX2_begin : ByteArray := prog_4_method_2_code
def yX2_begin : MethodName := ⟨RX2, "begin", "(I)V"⟩
abbrev cX2_join : ByteArray := prog_4_method_3_code
def yX2_join : MethodName := ⟨RX2, "join", "(I)V"⟩
abbrev cX2_letDaysGoBy : ByteArray := prog_4_method_4_code
def yX2_letDaysGoBy : MethodName := ⟨RX2, "letDaysGoBy", "(I)V"⟩
def RX3 : String := "Grievancehall"
def TX3 : u_T := fun k => match k with
  | 0 => ("Grievancehall", "typed", "[C", true)
  | 1 => ("Grievancehall", "typedCount", "I", false)
  | 2 => ("Grievancehall", "aboveOffice", "[I", true)
  | 3 => ("Grievancehall", "officeCount", "I", false)
  | 4 => ("Grievancehall", "delegations", "LGrievancehall$Changes;", true)
  | 5 => ("Grievancehall", "limits", "LGrievancehall$Changes;", true)
  | 6 => ("Grievancehall", "acts", "[LGrievancehall$Act;", true)
  | 7 => ("Grievancehall", "actCount", "I", false)
  | 8 => ("Grievancehall", "complaints", "[LGrievancehall$Complaint;", true)
  | 9 => ("Grievancehall", "complaintCount", "I", false)
  | _ => ("Grievancehall", "today", "I", false)
def tyX3 : Nat → FieldType := fun k => match k with
  | 0 => .array .char
  | 1 => .int
  | 2 => .array .int
  | 3 => .int
  | 4 => .object "Grievancehall$Changes"
  | 5 => .object "Grievancehall$Changes"
  | 6 => .array (.object "Grievancehall$Act")
  | 7 => .int
  | 8 => .array (.object "Grievancehall$Complaint")
  | 9 => .int
  | _ => .int
abbrev wsX30 : List Cond := u_ws RX3 TX3 11
theorem nmX3 : ∀ a, a < 11 → ∀ b, b < 11 → a ≠ b → (TX3 a).2.1 ≠ (TX3 b).2.1 := by decide +kernel
theorem tyX3_ok : ∀ k, k < 11 → parseFieldDescriptor (TX3 k).2.2.1 = some (tyX3 k) := by decide +kernel
abbrev cX3_init : ByteArray := prog_1_method_1_code
def yX3_init : MethodName := ⟨RX3, "<init>", "()V"⟩
abbrev cX3_letter : ByteArray := prog_1_method_2_code
def yX3_letter : MethodName := ⟨RX3, "letter", "(C)I"⟩
abbrev cX3_office : ByteArray := prog_1_method_3_code
def yX3_office : MethodName := ⟨RX3, "office", "(I)I"⟩
abbrev cX3_delegate : ByteArray := prog_1_method_4_code
def yX3_delegate : MethodName := ⟨RX3, "delegate", "(II)I"⟩
abbrev cX3_whose : ByteArray := prog_1_method_5_code
def yX3_whose : MethodName := ⟨RX3, "whose", "(II)I"⟩
abbrev cX3_limit : ByteArray := prog_1_method_6_code
def yX3_limit : MethodName := ⟨RX3, "limit", "(II)I"⟩
abbrev cX3_act : ByteArray := prog_1_method_7_code
def yX3_act : MethodName := ⟨RX3, "act", "(III)I"⟩
abbrev cX3_court : ByteArray := prog_1_method_8_code
def yX3_court : MethodName := ⟨RX3, "court", "(IZ)Z"⟩
abbrev cX3_waive : ByteArray := prog_1_method_9_code
def yX3_waive : MethodName := ⟨RX3, "waive", "(IZ)Z"⟩
abbrev cX3_plea : ByteArray := prog_1_method_10_code
def yX3_plea : MethodName := ⟨RX3, "plea", "(II)V"⟩
abbrev cX3_bar : ByteArray := prog_1_method_11_code
def yX3_bar : MethodName := ⟨RX3, "bar", "(II)I"⟩
abbrev cX3_complain : ByteArray := prog_1_method_12_code
def yX3_complain : MethodName := ⟨RX3, "complain", "(II)I"⟩
abbrev cX3_ask : ByteArray := prog_1_method_13_code
def yX3_ask : MethodName := ⟨RX3, "ask", "(I)I"⟩
abbrev cX3_answer : ByteArray := prog_1_method_14_code
def yX3_answer : MethodName := ⟨RX3, "answer", "(I)I"⟩
abbrev cX3_hear : ByteArray := prog_1_method_15_code
def yX3_hear : MethodName := ⟨RX3, "hear", "(I)V"⟩
abbrev cX3_find : ByteArray := prog_1_method_16_code
def yX3_find : MethodName := ⟨RX3, "find", "(I)I"⟩
abbrev cX3_remedy : ByteArray := prog_1_method_17_code
def yX3_remedy : MethodName := ⟨RX3, "remedy", "(II)I"⟩
abbrev cX3_pass : ByteArray := prog_1_method_18_code
def yX3_pass : MethodName := ⟨RX3, "pass", "(I)I"⟩
abbrev cX3_about : ByteArray := prog_1_method_19_code
def yX3_about : MethodName := ⟨RX3, "about", "(II)I"⟩
abbrev cX3_reminder : ByteArray := prog_1_method_20_code
def yX3_reminder : MethodName := ⟨RX3, "reminder", "(I)I"⟩
abbrev cX3_fault : ByteArray := prog_1_method_21_code
def yX3_fault : MethodName := ⟨RX3, "fault", "(I)I"⟩
abbrev cX3_likes : ByteArray := prog_1_method_22_code
def yX3_likes : MethodName := ⟨RX3, "likes", "(I)I"⟩
abbrev cX3_remedied : ByteArray := prog_1_method_23_code
def yX3_remedied : MethodName := ⟨RX3, "remedied", "(I)I"⟩
abbrev cX3_gains : ByteArray := prog_1_method_24_code
def yX3_gains : MethodName := ⟨RX3, "gains", "(II)I"⟩
abbrev cX3_needNumber : ByteArray := prog_1_method_25_code
def yX3_needNumber : MethodName := ⟨RX3, "needNumber", "(II)V"⟩
abbrev cX3_needRange : ByteArray := prog_1_method_26_code
def yX3_needRange : MethodName := ⟨RX3, "needRange", "(III)V"⟩
abbrev cX3_wordOf : ByteArray := prog_1_method_27_code
def yX3_wordOf : MethodName := ⟨RX3, "wordOf", "(I)Ljava/lang/String;"⟩
abbrev cX3_typedKind : ByteArray := prog_1_method_28_code
def yX3_typedKind : MethodName := ⟨RX3, "typedKind", "()I"⟩
abbrev cX3_isTyped : ByteArray := prog_1_method_29_code
def yX3_isTyped : MethodName := ⟨RX3, "isTyped", "(Ljava/lang/String;)Z"⟩
abbrev cX3_ownerOn : ByteArray := prog_1_method_30_code
def yX3_ownerOn : MethodName := ⟨RX3, "ownerOn", "(II)I"⟩
abbrev cX3_climbFrom : ByteArray := prog_1_method_31_code
def yX3_climbFrom : MethodName := ⟨RX3, "climbFrom", "(II)I"⟩
abbrev cX3_complaintToJoin : ByteArray := prog_1_method_32_code
def yX3_complaintToJoin : MethodName := ⟨RX3, "complaintToJoin", "(I)I"⟩
abbrev cX3_beginComplaint : ByteArray := prog_1_method_33_code
def yX3_beginComplaint : MethodName := ⟨RX3, "beginComplaint", "(I)I"⟩
abbrev cX3_isLike : ByteArray := prog_1_method_34_code
def yX3_isLike : MethodName := ⟨RX3, "isLike", "(II)Z"⟩
abbrev cX3_countLikes : ByteArray := prog_1_method_35_code
def yX3_countLikes : MethodName := ⟨RX3, "countLikes", "(I)I"⟩
abbrev cX3_sumOfLikes : ByteArray := prog_1_method_36_code
def yX3_sumOfLikes : MethodName := ⟨RX3, "sumOfLikes", "(I)I"⟩
abbrev cX3_failsRule : ByteArray := prog_1_method_37_code
def yX3_failsRule : MethodName := ⟨RX3, "failsRule", "(I)Z"⟩
abbrev cX3_isUnequal : ByteArray := prog_1_method_38_code
def yX3_isUnequal : MethodName := ⟨RX3, "isUnequal", "(I)Z"⟩
abbrev cX3_faultOf : ByteArray := prog_1_method_39_code
def yX3_faultOf : MethodName := ⟨RX3, "faultOf", "(I)I"⟩
def RX4 : String := "GrievancehallModel"
def TX4 : u_T := fun k => match k with
  | 0 => ("GrievancehallModel", "day", "I", false)
  | 1 => ("GrievancehallModel", "word", "[I", true)
  | 2 => ("GrievancehallModel", "letters", "I", false)
  | 3 => ("GrievancehallModel", "offices", "I", false)
  | 4 => ("GrievancehallModel", "above", "[I", true)
  | 5 => ("GrievancehallModel", "actsFor", "[I", true)
  | 6 => ("GrievancehallModel", "limits", "[I", true)
  | 7 => ("GrievancehallModel", "acts", "I", false)
  | 8 => ("GrievancehallModel", "whoseAct", "[I", true)
  | 9 => ("GrievancehallModel", "kind", "[I", true)
  | 10 => ("GrievancehallModel", "told", "[I", true)
  | 11 => ("GrievancehallModel", "measure", "[I", true)
  | 12 => ("GrievancehallModel", "harm", "[I", true)
  | 13 => ("GrievancehallModel", "isInCourt", "[Z", true)
  | 14 => ("GrievancehallModel", "isWaived", "[Z", true)
  | 15 => ("GrievancehallModel", "remedy", "[I", true)
  | 16 => ("GrievancehallModel", "pleaded", "[I", true)
  | 17 => ("GrievancehallModel", "complaints", "I", false)
  | 18 => ("GrievancehallModel", "about", "[I", true)
  | 19 => ("GrievancehallModel", "state", "[I", true)
  | 20 => ("GrievancehallModel", "left", "[I", true)
  | 21 => ("GrievancehallModel", "people", "[I", true)
  | 22 => ("GrievancehallModel", "asked", "[I", true)
  | 23 => ("GrievancehallModel", "isAnswered", "[Z", true)
  | 24 => ("GrievancehallModel", "isHeard", "[Z", true)
  | 25 => ("GrievancehallModel", "finding", "[I", true)
  | _ => ("GrievancehallModel", "thrown", "I", false)
def tyX4 : Nat → FieldType := fun k => match k with
  | 0 => .int
  | 1 => .array .int
  | 2 => .int
  | 3 => .int
  | 4 => .array .int
  | 5 => .array .int
  | 6 => .array .int
  | 7 => .int
  | 8 => .array .int
  | 9 => .array .int
  | 10 => .array .int
  | 11 => .array .int
  | 12 => .array .int
  | 13 => .array .boolean
  | 14 => .array .boolean
  | 15 => .array .int
  | 16 => .array .int
  | 17 => .int
  | 18 => .array .int
  | 19 => .array .int
  | 20 => .array .int
  | 21 => .array .int
  | 22 => .array .int
  | 23 => .array .boolean
  | 24 => .array .boolean
  | 25 => .array .int
  | _ => .int
abbrev wsX40 : List Cond := u_ws RX4 TX4 27
theorem nmX4 : ∀ a, a < 27 → ∀ b, b < 27 → a ≠ b → (TX4 a).2.1 ≠ (TX4 b).2.1 := by decide +kernel
theorem tyX4_ok : ∀ k, k < 27 → parseFieldDescriptor (TX4 k).2.2.1 = some (tyX4 k) := by decide +kernel
abbrev cX4_init : ByteArray := prog_6_method_1_code
def yX4_init : MethodName := ⟨RX4, "<init>", "()V"⟩
abbrev cX4_thrown : ByteArray := prog_6_method_2_code
def yX4_thrown : MethodName := ⟨RX4, "thrown", "()I"⟩
abbrev cX4_fails : ByteArray := prog_6_method_3_code
def yX4_fails : MethodName := ⟨RX4, "fails", "(I)I"⟩
abbrev cX4_asks : ByteArray := prog_6_method_4_code
def yX4_asks : MethodName := ⟨RX4, "asks", "(Z)Z"⟩
abbrev cX4_in : ByteArray := prog_6_method_5_code
def yX4_in : MethodName := ⟨RX4, "in", "(III)Z"⟩
abbrev cX4_isOffice : ByteArray := prog_6_method_6_code
def yX4_isOffice : MethodName := ⟨RX4, "isOffice", "(I)Z"⟩
abbrev cX4_isAct : ByteArray := prog_6_method_7_code
def yX4_isAct : MethodName := ⟨RX4, "isAct", "(I)Z"⟩
abbrev cX4_isKind : ByteArray := prog_6_method_8_code
def yX4_isKind : MethodName := ⟨RX4, "isKind", "(I)Z"⟩
abbrev cX4_isComplaint : ByteArray := prog_6_method_9_code
def yX4_isComplaint : MethodName := ⟨RX4, "isComplaint", "(I)Z"⟩
abbrev cX4_letter : ByteArray := prog_6_method_10_code
def yX4_letter : MethodName := ⟨RX4, "letter", "(C)I"⟩
abbrev cX4_isTyped : ByteArray := prog_6_method_11_code
def yX4_isTyped : MethodName := ⟨RX4, "isTyped", "(I)Z"⟩
abbrev cX4_office : ByteArray := prog_6_method_12_code
def yX4_office : MethodName := ⟨RX4, "office", "(I)I"⟩
abbrev cX4_delegate : ByteArray := prog_6_method_13_code
def yX4_delegate : MethodName := ⟨RX4, "delegate", "(II)I"⟩
abbrev cX4_whoseOn : ByteArray := prog_6_method_14_code
def yX4_whoseOn : MethodName := ⟨RX4, "whoseOn", "(II)I"⟩
abbrev cX4_whose : ByteArray := prog_6_method_15_code
def yX4_whose : MethodName := ⟨RX4, "whose", "(II)I"⟩
abbrev cX4_limit : ByteArray := prog_6_method_16_code
def yX4_limit : MethodName := ⟨RX4, "limit", "(II)I"⟩
abbrev cX4_act : ByteArray := prog_6_method_17_code
def yX4_act : MethodName := ⟨RX4, "act", "(III)I"⟩
abbrev cX4_court : ByteArray := prog_6_method_18_code
def yX4_court : MethodName := ⟨RX4, "court", "(IZ)Z"⟩
abbrev cX4_waive : ByteArray := prog_6_method_19_code
def yX4_waive : MethodName := ⟨RX4, "waive", "(IZ)Z"⟩
abbrev cX4_isThere : ByteArray := prog_6_method_20_code
def yX4_isThere : MethodName := ⟨RX4, "isThere", "(II)Z"⟩
abbrev cX4_plea : ByteArray := prog_6_method_21_code
def yX4_plea : MethodName := ⟨RX4, "plea", "(II)V"⟩
abbrev cX4_barOf : ByteArray := prog_6_method_22_code
def yX4_barOf : MethodName := ⟨RX4, "barOf", "(II)I"⟩
abbrev cX4_bar : ByteArray := prog_6_method_23_code
def yX4_bar : MethodName := ⟨RX4, "bar", "(II)I"⟩
abbrev cX4_complaintOf : ByteArray := prog_6_method_24_code
def yX4_complaintOf : MethodName := ⟨RX4, "complaintOf", "(I)I"⟩
abbrev cX4_complain : ByteArray := prog_6_method_25_code
def yX4_complain : MethodName := ⟨RX4, "complain", "(II)I"⟩
abbrev cX4_isOwed : ByteArray := prog_6_method_26_code
def yX4_isOwed : MethodName := ⟨RX4, "isOwed", "(I)Z"⟩
abbrev cX4_ask : ByteArray := prog_6_method_27_code
def yX4_ask : MethodName := ⟨RX4, "ask", "(I)I"⟩
abbrev cX4_answer : ByteArray := prog_6_method_28_code
def yX4_answer : MethodName := ⟨RX4, "answer", "(I)I"⟩
abbrev cX4_hear : ByteArray := prog_6_method_29_code
def yX4_hear : MethodName := ⟨RX4, "hear", "(I)V"⟩
abbrev cX4_areLike : ByteArray := prog_6_method_30_code
def yX4_areLike : MethodName := ⟨RX4, "areLike", "(II)Z"⟩
abbrev cX4_likesOf : ByteArray := prog_6_method_31_code
def yX4_likesOf : MethodName := ⟨RX4, "likesOf", "(I)I"⟩
abbrev cX4_doesFail : ByteArray := prog_6_method_32_code
def yX4_doesFail : MethodName := ⟨RX4, "doesFail", "(I)Z"⟩
abbrev cX4_isUnequal : ByteArray := prog_6_method_33_code
def yX4_isUnequal : MethodName := ⟨RX4, "isUnequal", "(I)Z"⟩
abbrev cX4_faultOf : ByteArray := prog_6_method_34_code
def yX4_faultOf : MethodName := ⟨RX4, "faultOf", "(I)I"⟩
abbrev cX4_find : ByteArray := prog_6_method_35_code
def yX4_find : MethodName := ⟨RX4, "find", "(I)I"⟩
abbrev cX4_remedy : ByteArray := prog_6_method_36_code
def yX4_remedy : MethodName := ⟨RX4, "remedy", "(II)I"⟩
abbrev cX4_pass : ByteArray := prog_6_method_37_code
def yX4_pass : MethodName := ⟨RX4, "pass", "(I)I"⟩
abbrev cX4_ones : ByteArray := prog_6_method_38_code
def yX4_ones : MethodName := ⟨RX4, "ones", "(I)I"⟩
abbrev cX4_about : ByteArray := prog_6_method_39_code
def yX4_about : MethodName := ⟨RX4, "about", "(II)I"⟩
abbrev cX4_reminder : ByteArray := prog_6_method_40_code
def yX4_reminder : MethodName := ⟨RX4, "reminder", "(I)I"⟩
abbrev cX4_fault : ByteArray := prog_6_method_41_code
def yX4_fault : MethodName := ⟨RX4, "fault", "(I)I"⟩
abbrev cX4_likes : ByteArray := prog_6_method_42_code
def yX4_likes : MethodName := ⟨RX4, "likes", "(I)I"⟩
abbrev cX4_remedied : ByteArray := prog_6_method_43_code
def yX4_remedied : MethodName := ⟨RX4, "remedied", "(I)I"⟩
abbrev cX4_gains : ByteArray := prog_6_method_44_code
def yX4_gains : MethodName := ⟨RX4, "gains", "(II)I"⟩
def RJ6 : String := "java/lang/Integer"
def TJ6 : u_T := fun k => match k with
  | _ => ("", "", "", false)
def tyJ6 : Nat → FieldType := fun k => match k with
  | _ => .int
abbrev wsJ60 : List Cond := u_ws RJ6 TJ6 0
theorem nmJ6 : ∀ a, a < 0 → ∀ b, b < 0 → a ≠ b → (TJ6 a).2.1 ≠ (TJ6 b).2.1 := by decide +kernel
theorem tyJ6_ok : ∀ k, k < 0 → parseFieldDescriptor (TJ6 k).2.2.1 = some (tyJ6 k) := by decide +kernel
abbrev cJ6_bitCount_0f7a4 : ByteArray := prog_11_method_49_code
def yJ6_bitCount_0f7a4 : MethodName := ⟨RJ6, "bitCount", "(I)I"⟩
def RJ9 : String := "java/lang/Math"
def TJ9 : u_T := fun k => match k with
  | _ => ("", "", "", false)
def tyJ9 : Nat → FieldType := fun k => match k with
  | _ => .int
abbrev wsJ90 : List Cond := u_ws RJ9 TJ9 0
theorem nmJ9 : ∀ a, a < 0 → ∀ b, b < 0 → a ≠ b → (TJ9 a).2.1 ≠ (TJ9 b).2.1 := by decide +kernel
theorem tyJ9_ok : ∀ k, k < 0 → parseFieldDescriptor (TJ9 k).2.2.1 = some (tyJ9 k) := by decide +kernel
abbrev cJ9_max_7cf53 : ByteArray := prog_12_method_65_code
def yJ9_max_7cf53 : MethodName := ⟨RJ9, "max", "(II)I"⟩
def RJ0 : String := "java/lang/String"
def TJ0 : u_T := fun k => match k with
  | _ => ("", "", "", false)
def tyJ0 : Nat → FieldType := fun k => match k with
  | _ => .int
abbrev wsJ00 : List Cond := u_ws RJ0 TJ0 0
theorem nmJ0 : ∀ a, a < 0 → ∀ b, b < 0 → a ≠ b → (TJ0 a).2.1 ≠ (TJ0 b).2.1 := by decide +kernel
theorem tyJ0_ok : ∀ k, k < 0 → parseFieldDescriptor (TJ0 k).2.2.1 = some (tyJ0 k) := by decide +kernel
abbrev cJ0_length_8abf5 : ByteArray := prog_14_method_54_code
def yJ0_length_8abf5 : MethodName := ⟨RJ0, "length", "()I"⟩
abbrev cJ0_charAt_5068e : ByteArray := prog_14_method_56_code
def yJ0_charAt_5068e : MethodName := ⟨RJ0, "charAt", "(I)C"⟩
abbrev cJ0_coder_7d493 : ByteArray := prog_14_method_152_code
def yJ0_coder_7d493 : MethodName := ⟨RJ0, "coder", "()B"⟩
abbrev cJ0_isLatin1_aae02 : ByteArray := prog_14_method_154_code
def yJ0_isLatin1_aae02 : MethodName := ⟨RJ0, "isLatin1", "()Z"⟩
abbrev cJ0_checkIndex_df160 : ByteArray := prog_14_method_155_code
def yJ0_checkIndex_df160 : MethodName := ⟨RJ0, "checkIndex", "(II)V"⟩
def RJ1 : String := "java/lang/StringLatin1"
def TJ1 : u_T := fun k => match k with
  | _ => ("", "", "", false)
def tyJ1 : Nat → FieldType := fun k => match k with
  | _ => .int
abbrev wsJ10 : List Cond := u_ws RJ1 TJ1 0
theorem nmJ1 : ∀ a, a < 0 → ∀ b, b < 0 → a ≠ b → (TJ1 a).2.1 ≠ (TJ1 b).2.1 := by decide +kernel
theorem tyJ1_ok : ∀ k, k < 0 → parseFieldDescriptor (TJ1 k).2.2.1 = some (tyJ1 k) := by decide +kernel
abbrev cJ1_charAt_3b067 : ByteArray := prog_15_method_2_code
def yJ1_charAt_3b067 : MethodName := ⟨RJ1, "charAt", "([BI)C"⟩
def RJ2 : String := "java/lang/StringUTF16"
def TJ2 : u_T := fun k => match k with
  | _ => ("", "", "", false)
def tyJ2 : Nat → FieldType := fun k => match k with
  | _ => .int
abbrev wsJ20 : List Cond := u_ws RJ2 TJ2 0
theorem nmJ2 : ∀ a, a < 0 → ∀ b, b < 0 → a ≠ b → (TJ2 a).2.1 ≠ (TJ2 b).2.1 := by decide +kernel
theorem tyJ2_ok : ∀ k, k < 0 → parseFieldDescriptor (TJ2 k).2.2.1 = some (tyJ2 k) := by decide +kernel
abbrev cJ2_getChar_3b067 : ByteArray := prog_16_method_5_code
def yJ2_getChar_3b067 : MethodName := ⟨RJ2, "getChar", "([BI)C"⟩
abbrev cJ2_length_9d52b : ByteArray := prog_16_method_6_code
def yJ2_length_9d52b : MethodName := ⟨RJ2, "length", "([B)I"⟩
abbrev cJ2_charAt_3b067 : ByteArray := prog_16_method_83_code
def yJ2_charAt_3b067 : MethodName := ⟨RJ2, "charAt", "([BI)C"⟩
abbrev cJ2_checkIndex_2214a : ByteArray := prog_16_method_91_code
def yJ2_checkIndex_2214a : MethodName := ⟨RJ2, "checkIndex", "(I[B)V"⟩
def RJ3 : String := "jdk/internal/util/Preconditions"
def TJ3 : u_T := fun k => match k with
  | _ => ("", "", "", false)
def tyJ3 : Nat → FieldType := fun k => match k with
  | _ => .int
abbrev wsJ30 : List Cond := u_ws RJ3 TJ3 0
theorem nmJ3 : ∀ a, a < 0 → ∀ b, b < 0 → a ≠ b → (TJ3 a).2.1 ≠ (TJ3 b).2.1 := by decide +kernel
theorem tyJ3_ok : ∀ k, k < 0 → parseFieldDescriptor (TJ3 k).2.2.1 = some (tyJ3 k) := by decide +kernel
abbrev cJ3_checkIndex_8e157 : ByteArray := prog_18_method_11_code
def yJ3_checkIndex_8e157 : MethodName := ⟨RJ3, "checkIndex", "(IILjava/util/function/BiFunction;)I"⟩
def RL : String := "GrievancehallLaw"
abbrev cL_letter : ByteArray := method_3_code
def yL_letter : MethodName := ⟨RL, "letter", "(LGrievancehall;C[J)I"⟩
abbrev cL_office : ByteArray := method_4_code
def yL_office : MethodName := ⟨RL, "office", "(LGrievancehall;I[J)I"⟩
abbrev cL_delegate : ByteArray := method_5_code
def yL_delegate : MethodName := ⟨RL, "delegate", "(LGrievancehall;II[J)I"⟩
abbrev cL_whose : ByteArray := method_6_code
def yL_whose : MethodName := ⟨RL, "whose", "(LGrievancehall;II[J)I"⟩
abbrev cL_limit : ByteArray := method_7_code
def yL_limit : MethodName := ⟨RL, "limit", "(LGrievancehall;II[J)I"⟩
abbrev cL_act : ByteArray := method_8_code
def yL_act : MethodName := ⟨RL, "act", "(LGrievancehall;III[J)I"⟩
abbrev cL_court : ByteArray := method_9_code
def yL_court : MethodName := ⟨RL, "court", "(LGrievancehall;IZ[J)I"⟩
abbrev cL_waive : ByteArray := method_10_code
def yL_waive : MethodName := ⟨RL, "waive", "(LGrievancehall;IZ[J)I"⟩
abbrev cL_plea : ByteArray := method_11_code
def yL_plea : MethodName := ⟨RL, "plea", "(LGrievancehall;II)I"⟩
abbrev cL_bar : ByteArray := method_12_code
def yL_bar : MethodName := ⟨RL, "bar", "(LGrievancehall;II[J)I"⟩
abbrev cL_complain : ByteArray := method_13_code
def yL_complain : MethodName := ⟨RL, "complain", "(LGrievancehall;II[J)I"⟩
abbrev cL_ask : ByteArray := method_14_code
def yL_ask : MethodName := ⟨RL, "ask", "(LGrievancehall;I[J)I"⟩
abbrev cL_answer : ByteArray := method_15_code
def yL_answer : MethodName := ⟨RL, "answer", "(LGrievancehall;I[J)I"⟩
abbrev cL_hear : ByteArray := method_16_code
def yL_hear : MethodName := ⟨RL, "hear", "(LGrievancehall;I)I"⟩
abbrev cL_find : ByteArray := method_17_code
def yL_find : MethodName := ⟨RL, "find", "(LGrievancehall;I[J)I"⟩
abbrev cL_remedy : ByteArray := method_18_code
def yL_remedy : MethodName := ⟨RL, "remedy", "(LGrievancehall;II[J)I"⟩
abbrev cL_pass : ByteArray := method_19_code
def yL_pass : MethodName := ⟨RL, "pass", "(LGrievancehall;I[J)I"⟩
abbrev cL_about : ByteArray := method_20_code
def yL_about : MethodName := ⟨RL, "about", "(LGrievancehall;II[J)I"⟩
abbrev cL_reminder : ByteArray := method_21_code
def yL_reminder : MethodName := ⟨RL, "reminder", "(LGrievancehall;I[J)I"⟩
abbrev cL_fault : ByteArray := method_22_code
def yL_fault : MethodName := ⟨RL, "fault", "(LGrievancehall;I[J)I"⟩
abbrev cL_likes : ByteArray := method_23_code
def yL_likes : MethodName := ⟨RL, "likes", "(LGrievancehall;I[J)I"⟩
abbrev cL_remedied : ByteArray := method_24_code
def yL_remedied : MethodName := ⟨RL, "remedied", "(LGrievancehall;I[J)I"⟩
abbrev cL_gains : ByteArray := method_25_code
def yL_gains : MethodName := ⟨RL, "gains", "(LGrievancehall;II[J)I"⟩
abbrev cL_law : ByteArray := code
def yL_law : MethodName := ⟨RL, "law", "([I)Z"⟩
def wsX0_init : List Cond := .code yX0_init cX0_init 2 none :: ([.methodLink RX0 3 objectInit, .instanceMethod objectInit, .code objectInit ⟨#[0xb1]⟩ 1 none, .arrayClass .int, .fieldLink RX0 9 "Grievancehall$Act" "pleaDays" "[I", .fieldLink RX0 15 "Grievancehall$Act" "remedySum" "I"] ++ wsX00)
def wsX0_begin : List Cond := .code yX0_begin cX0_begin 6 none :: ([.fieldLink RX0 19 "Grievancehall$Act" "owner" "I", .fieldLink RX0 22 "Grievancehall$Act" "kind" "I", .fieldLink RX0 25 "Grievancehall$Act" "day" "I", .fieldLink RX0 28 "Grievancehall$Act" "measure" "I", .fieldLink RX0 31 "Grievancehall$Act" "harm" "I"] ++ wsX00)
def wsX0_barOn : List Cond := .code yX0_barOn cX0_barOn 3 (some .int) :: ([.fieldLink RX0 9 "Grievancehall$Act" "pleaDays" "[I", .fieldLink RX0 34 "Grievancehall$Act" "inCourt" "Z", .fieldLink RX0 25 "Grievancehall$Act" "day" "I", .fieldLink RX0 38 "Grievancehall$Act" "timeWaived" "Z"] ++ wsX00)
def wsX0_giveRemedy : List Cond := .code yX0_giveRemedy cX0_giveRemedy 2 none :: ([.fieldLink RX0 31 "Grievancehall$Act" "harm" "I", .fieldLink RX0 15 "Grievancehall$Act" "remedySum" "I"] ++ wsX00)
def wsX1_init : List Cond := .code yX1_init cX1_init 1 none :: ([.methodLink RX1 3 objectInit, .instanceMethod objectInit, .code objectInit ⟨#[0xb1]⟩ 1 none, .arrayClass .int, .fieldLink RX1 9 "Grievancehall$Changes" "things" "[I", .fieldLink RX1 15 "Grievancehall$Changes" "days" "[I", .fieldLink RX1 18 "Grievancehall$Changes" "values" "[I"] ++ wsX10)
def wsX1_valueOn : List Cond := .code yX1_valueOn cX1_valueOn 5 (some .int) :: ([.fieldLink RX1 21 "Grievancehall$Changes" "count" "I", .fieldLink RX1 9 "Grievancehall$Changes" "things" "[I", .fieldLink RX1 15 "Grievancehall$Changes" "days" "[I", .fieldLink RX1 18 "Grievancehall$Changes" "values" "[I"] ++ wsX10)
def wsX1_tell : List Cond := .code yX1_tell cX1_tell 4 none :: ([.fieldLink RX1 21 "Grievancehall$Changes" "count" "I", .fieldLink RX1 9 "Grievancehall$Changes" "things" "[I", .fieldLink RX1 15 "Grievancehall$Changes" "days" "[I", .fieldLink RX1 18 "Grievancehall$Changes" "values" "[I"] ++ wsX10)
def wsX2_init : List Cond := .code yX2_init cX2_init 1 none :: ([.methodLink RX2 3 objectInit, .instanceMethod objectInit, .code objectInit ⟨#[0xb1]⟩ 1 none])
def wsX2_begin : List Cond := .code yX2_begin cX2_begin 2 none :: ([.fieldLink RX2 9 "Grievancehall$Complaint" "actNumber" "I", .fieldLink RX2 15 "Grievancehall$Complaint" "state" "I", .fieldLink RX2 18 "Grievancehall$Complaint" "daysLeft" "I", .fieldLink RX2 21 "Grievancehall$Complaint" "file" "I", .fieldLink RX2 24 "Grievancehall$Complaint" "finding" "I"] ++ wsX20)
def wsX2_join : List Cond := .code yX2_join cX2_join 2 none :: ([.fieldLink RX2 27 "Grievancehall$Complaint" "people" "I"] ++ wsX20)
def wsX2_letDaysGoBy : List Cond := .code yX2_letDaysGoBy cX2_letDaysGoBy 2 none :: ([.fieldLink RX2 15 "Grievancehall$Complaint" "state" "I", .fieldLink RX2 21 "Grievancehall$Complaint" "file" "I", .fieldLink RX2 18 "Grievancehall$Complaint" "daysLeft" "I", .methodLink RX2 30 Lib.Math.max.name, .static Lib.Math.max.name, .initialized "java/lang/Math", .code Lib.Math.max.name Lib.Math.max.code 2 (some .int)] ++ wsX20)
def wsX3_init_r1 : List Cond := [Cond.methodLink RX3 1 objectInit, Cond.instanceMethod objectInit, Cond.code objectInit ⟨#[0xb1]⟩ 1 none, Cond.arrayClass .char, Cond.fieldLink RX3 9 "Grievancehall" "typed" "[C", Cond.arrayClass .int, Cond.fieldLink RX3 13 "Grievancehall" "aboveOffice" "[I", Cond.classLink RX3 17 RX1, Cond.instantiable RX1 4, Cond.initialized RX1, Cond.fieldLink RX3 20 "Grievancehall" "delegations" "LGrievancehall$Changes;", Cond.fieldLink RX3 24 "Grievancehall" "limits" "LGrievancehall$Changes;", Cond.classLink RX3 27 RX0, Cond.fieldLink RX3 29 "Grievancehall" "acts" "[LGrievancehall$Act;", Cond.instantiable RX0 9, Cond.initialized RX0, Cond.classLink RX3 34 RX2, Cond.fieldLink RX3 36 "Grievancehall" "complaints" "[LGrievancehall$Complaint;", Cond.instantiable RX2 8, Cond.initialized RX2, Cond.methodLink RX3 19 yX1_init, Cond.instanceMethod yX1_init, Cond.code yX1_init cX1_init 1 none, Cond.methodLink RX1 3 objectInit]
def wsX3_init_r2 : List Cond := [Cond.fieldLink RX1 9 "Grievancehall$Changes" "things" "[I", Cond.fieldLink RX1 15 "Grievancehall$Changes" "days" "[I", Cond.fieldLink RX1 18 "Grievancehall$Changes" "values" "[I", Cond.methodLink RX3 33 yX0_init, Cond.instanceMethod yX0_init, Cond.code yX0_init cX0_init 2 none, Cond.methodLink RX0 3 objectInit, Cond.fieldLink RX0 9 "Grievancehall$Act" "pleaDays" "[I", Cond.fieldLink RX0 15 "Grievancehall$Act" "remedySum" "I", Cond.methodLink RX3 40 yX2_init, Cond.instanceMethod yX2_init, Cond.code yX2_init cX2_init 1 none, Cond.methodLink RX2 3 objectInit]
def wsX3_init : List Cond := .code yX3_init cX3_init 2 none :: ((wsX3_init_r1 ++ wsX3_init_r2) ++ wsX30 ++ wsX10 ++ wsX00 ++ wsX20)
def wsX3_letter : List Cond := .code yX3_letter cX3_letter 2 (some .int) :: ([.classLink RX3 41 "java/lang/IllegalArgumentException", .initialized "java/lang/IllegalArgumentException", .classLink RX3 52 "java/lang/IllegalStateException", .initialized "java/lang/IllegalStateException", .fieldLink RX3 48 "Grievancehall" "typedCount" "I", .fieldLink RX3 9 "Grievancehall" "typed" "[C"] ++ wsX30 ++ (vx_atS RX3 45 "java/lang/IllegalArgumentException" ["java/lang/RuntimeException", "java/lang/Exception"]).filter goodWord ++ (vx_atS RX3 56 "java/lang/IllegalStateException" ["java/lang/RuntimeException", "java/lang/Exception"]).filter goodWord)
def wsX3_needNumber : List Cond := .code yX3_needNumber cX3_needNumber 2 none :: ([.classLink RX3 206 "java/lang/IndexOutOfBoundsException", .initialized "java/lang/IndexOutOfBoundsException"] ++ (vx_atS RX3 210 "java/lang/IndexOutOfBoundsException" ["java/lang/RuntimeException", "java/lang/Exception"]).filter goodWord)
def wsX3_office : List Cond := .code yX3_office cX3_office 3 (some .int) :: ([.classLink RX3 52 "java/lang/IllegalStateException", .initialized "java/lang/IllegalStateException", .fieldLink RX3 57 "Grievancehall" "officeCount" "I", .fieldLink RX3 13 "Grievancehall" "aboveOffice" "[I", .methodLink RX3 60 yX3_needNumber, .static yX3_needNumber, .initialized RX3, .code yX3_needNumber cX3_needNumber 2 none, .classLink RX3 206 "java/lang/IndexOutOfBoundsException", .initialized "java/lang/IndexOutOfBoundsException"] ++ wsX30 ++ (vx_atS RX3 56 "java/lang/IllegalStateException" ["java/lang/RuntimeException", "java/lang/Exception"]).filter goodWord ++ (vx_atS RX3 210 "java/lang/IndexOutOfBoundsException" ["java/lang/RuntimeException", "java/lang/Exception"]).filter goodWord)
def wsX3_delegate : List Cond := .code yX3_delegate cX3_delegate 4 (some .int) :: ([.classLink RX3 41 "java/lang/IllegalArgumentException", .initialized "java/lang/IllegalArgumentException", .fieldLink RX3 57 "Grievancehall" "officeCount" "I", .fieldLink RX3 20 "Grievancehall" "delegations" "LGrievancehall$Changes;", .fieldLink RX3 68 "Grievancehall" "today" "I", .methodLink RX3 60 yX3_needNumber, .static yX3_needNumber, .initialized RX3, .code yX3_needNumber cX3_needNumber 2 none, .classLink RX3 206 "java/lang/IndexOutOfBoundsException", .initialized "java/lang/IndexOutOfBoundsException", .methodLink RX3 71 yX1_valueOn, .instanceMethod yX1_valueOn, .selects RX1 yX1_valueOn yX1_valueOn, .initialized RX1, .code yX1_valueOn cX1_valueOn 5 (some .int), .fieldLink RX1 21 "Grievancehall$Changes" "count" "I", .fieldLink RX1 9 "Grievancehall$Changes" "things" "[I", .fieldLink RX1 15 "Grievancehall$Changes" "days" "[I", .fieldLink RX1 18 "Grievancehall$Changes" "values" "[I", .methodLink RX3 75 yX1_tell, .instanceMethod yX1_tell, .selects RX1 yX1_tell yX1_tell, .code yX1_tell cX1_tell 4 none] ++ wsX30 ++ wsX10 ++ (vx_atS RX3 45 "java/lang/IllegalArgumentException" ["java/lang/RuntimeException", "java/lang/Exception"]).filter goodWord ++ (vx_atS RX3 210 "java/lang/IndexOutOfBoundsException" ["java/lang/RuntimeException", "java/lang/Exception"]).filter goodWord)
def wsX3_needRange : List Cond := .code yX3_needRange cX3_needRange 3 none :: ([.classLink RX3 41 "java/lang/IllegalArgumentException", .initialized "java/lang/IllegalArgumentException"] ++ (vx_atS RX3 45 "java/lang/IllegalArgumentException" ["java/lang/RuntimeException", "java/lang/Exception"]).filter goodWord)
def wsX3_ownerOn : List Cond := .code yX3_ownerOn cX3_ownerOn 6 (some .int) :: ([.fieldLink RX3 20 "Grievancehall" "delegations" "LGrievancehall$Changes;", .methodLink RX3 71 yX1_valueOn, .instanceMethod yX1_valueOn, .selects RX1 yX1_valueOn yX1_valueOn, .initialized RX1, .code yX1_valueOn cX1_valueOn 5 (some .int), .fieldLink RX1 21 "Grievancehall$Changes" "count" "I", .fieldLink RX1 9 "Grievancehall$Changes" "things" "[I", .fieldLink RX1 15 "Grievancehall$Changes" "days" "[I", .fieldLink RX1 18 "Grievancehall$Changes" "values" "[I"] ++ wsX30 ++ wsX10)
def wsX3_whose_r1 : List Cond := [Cond.fieldLink RX3 57 "Grievancehall" "officeCount" "I", Cond.fieldLink RX3 68 "Grievancehall" "today" "I", Cond.methodLink RX3 60 yX3_needNumber, Cond.static yX3_needNumber, Cond.initialized RX3, Cond.code yX3_needNumber cX3_needNumber 2 none, Cond.classLink RX3 206 "java/lang/IndexOutOfBoundsException", Cond.initialized "java/lang/IndexOutOfBoundsException", Cond.methodLink RX3 79 yX3_needRange, Cond.static yX3_needRange, Cond.code yX3_needRange cX3_needRange 3 none, Cond.classLink RX3 41 "java/lang/IllegalArgumentException", Cond.initialized "java/lang/IllegalArgumentException", Cond.methodLink RX3 82 yX3_ownerOn, Cond.instanceMethod yX3_ownerOn, Cond.selects RX3 yX3_ownerOn yX3_ownerOn, Cond.code yX3_ownerOn cX3_ownerOn 6 (some .int), Cond.fieldLink RX3 20 "Grievancehall" "delegations" "LGrievancehall$Changes;", Cond.methodLink RX3 71 yX1_valueOn, Cond.instanceMethod yX1_valueOn, Cond.selects RX1 yX1_valueOn yX1_valueOn, Cond.initialized RX1, Cond.code yX1_valueOn cX1_valueOn 5 (some .int), Cond.fieldLink RX1 21 "Grievancehall$Changes" "count" "I"]
def wsX3_whose_r2 : List Cond := [Cond.fieldLink RX1 9 "Grievancehall$Changes" "things" "[I", Cond.fieldLink RX1 15 "Grievancehall$Changes" "days" "[I", Cond.fieldLink RX1 18 "Grievancehall$Changes" "values" "[I"]
def wsX3_whose : List Cond := .code yX3_whose cX3_whose 3 (some .int) :: ((wsX3_whose_r1 ++ wsX3_whose_r2) ++ wsX30 ++ wsX10 ++ (vx_atS RX3 210 "java/lang/IndexOutOfBoundsException" ["java/lang/RuntimeException", "java/lang/Exception"]).filter goodWord ++ (vx_atS RX3 45 "java/lang/IllegalArgumentException" ["java/lang/RuntimeException", "java/lang/Exception"]).filter goodWord)
def wsX3_limit_r1 : List Cond := [Cond.fieldLink RX3 24 "Grievancehall" "limits" "LGrievancehall$Changes;", Cond.fieldLink RX3 68 "Grievancehall" "today" "I", Cond.methodLink RX3 60 yX3_needNumber, Cond.static yX3_needNumber, Cond.initialized RX3, Cond.code yX3_needNumber cX3_needNumber 2 none, Cond.classLink RX3 206 "java/lang/IndexOutOfBoundsException", Cond.initialized "java/lang/IndexOutOfBoundsException", Cond.methodLink RX3 79 yX3_needRange, Cond.static yX3_needRange, Cond.code yX3_needRange cX3_needRange 3 none, Cond.classLink RX3 41 "java/lang/IllegalArgumentException", Cond.initialized "java/lang/IllegalArgumentException", Cond.methodLink RX3 71 yX1_valueOn, Cond.instanceMethod yX1_valueOn, Cond.selects RX1 yX1_valueOn yX1_valueOn, Cond.initialized RX1, Cond.code yX1_valueOn cX1_valueOn 5 (some .int), Cond.fieldLink RX1 21 "Grievancehall$Changes" "count" "I", Cond.fieldLink RX1 9 "Grievancehall$Changes" "things" "[I", Cond.fieldLink RX1 15 "Grievancehall$Changes" "days" "[I", Cond.fieldLink RX1 18 "Grievancehall$Changes" "values" "[I", Cond.methodLink RX3 75 yX1_tell, Cond.instanceMethod yX1_tell]
def wsX3_limit_r2 : List Cond := [Cond.selects RX1 yX1_tell yX1_tell, Cond.code yX1_tell cX1_tell 4 none]
def wsX3_limit : List Cond := .code yX3_limit cX3_limit 4 (some .int) :: ((wsX3_limit_r1 ++ wsX3_limit_r2) ++ wsX30 ++ wsX10 ++ (vx_atS RX3 210 "java/lang/IndexOutOfBoundsException" ["java/lang/RuntimeException", "java/lang/Exception"]).filter goodWord ++ (vx_atS RX3 45 "java/lang/IllegalArgumentException" ["java/lang/RuntimeException", "java/lang/Exception"]).filter goodWord)
def wsX3_wordOf : List Cond := .code yX3_wordOf cX3_wordOf 1 (some (.object "java/lang/String")) :: ([])
def wsJ0_coder_7d493 : List Cond := .code yJ0_coder_7d493 cJ0_coder_7d493 1 (some .byte) :: ([.fieldLink RJ0 38 "java/lang/String" "COMPACT_STRINGS" "Z", .fieldLink RJ0 15 "java/lang/String" "coder" "B"])
def wsJ0_length_8abf5 : List Cond := .code yJ0_length_8abf5 cJ0_length_8abf5 1 (some .int) :: ([.fieldLink RJ0 9 "java/lang/String" "value" "[B", .methodLink RJ0 335 yJ0_coder_7d493, .instanceMethod yJ0_coder_7d493, .selects RJ0 yJ0_coder_7d493 yJ0_coder_7d493, .initialized RJ0, .code yJ0_coder_7d493 cJ0_coder_7d493 1 (some .byte), .fieldLink RJ0 38 "java/lang/String" "COMPACT_STRINGS" "Z", .fieldLink RJ0 15 "java/lang/String" "coder" "B"])
def wsJ0_isLatin1_aae02 : List Cond := .code yJ0_isLatin1_aae02 cJ0_isLatin1_aae02 1 (some .boolean) :: ([.fieldLink RJ0 38 "java/lang/String" "COMPACT_STRINGS" "Z", .fieldLink RJ0 15 "java/lang/String" "coder" "B"])
def wsJ3_checkIndex_8e157 : List Cond := .code yJ3_checkIndex_8e157 cJ3_checkIndex_8e157 3 (some .int) :: ([])
def wsJ0_checkIndex_df160 : List Cond := .code yJ0_checkIndex_df160 cJ0_checkIndex_df160 2 none :: ([.fieldLink RJ0 1053 "jdk/internal/util/Preconditions" "SIOOBE_FORMATTER" "Ljava/util/function/BiFunction;", .methodLink RJ0 1059 yJ3_checkIndex_8e157, .static yJ3_checkIndex_8e157, .initialized RJ3, .code yJ3_checkIndex_8e157 cJ3_checkIndex_8e157 3 (some .int)])
def wsJ1_charAt_3b067 : List Cond := .code yJ1_charAt_3b067 cJ1_charAt_3b067 2 (some .char) :: ([.methodLink RJ1 9 yJ0_checkIndex_df160, .static yJ0_checkIndex_df160, .initialized RJ0, .code yJ0_checkIndex_df160 cJ0_checkIndex_df160 2 none, .fieldLink RJ0 1053 "jdk/internal/util/Preconditions" "SIOOBE_FORMATTER" "Ljava/util/function/BiFunction;", .methodLink RJ0 1059 yJ3_checkIndex_8e157, .static yJ3_checkIndex_8e157, .initialized RJ3, .code yJ3_checkIndex_8e157 cJ3_checkIndex_8e157 3 (some .int)])
def wsJ2_length_9d52b : List Cond := .code yJ2_length_9d52b cJ2_length_9d52b 1 (some .int) :: ([])
def wsJ2_checkIndex_2214a : List Cond := .code yJ2_checkIndex_2214a cJ2_checkIndex_2214a 2 none :: ([.methodLink RJ2 48 yJ2_length_9d52b, .static yJ2_length_9d52b, .initialized RJ2, .code yJ2_length_9d52b cJ2_length_9d52b 1 (some .int), .methodLink RJ2 414 yJ0_checkIndex_df160, .static yJ0_checkIndex_df160, .initialized RJ0, .code yJ0_checkIndex_df160 cJ0_checkIndex_df160 2 none, .fieldLink RJ0 1053 "jdk/internal/util/Preconditions" "SIOOBE_FORMATTER" "Ljava/util/function/BiFunction;", .methodLink RJ0 1059 yJ3_checkIndex_8e157, .static yJ3_checkIndex_8e157, .initialized RJ3, .code yJ3_checkIndex_8e157 cJ3_checkIndex_8e157 3 (some .int)])
def wsJ2_getChar_3b067 : List Cond := .code yJ2_getChar_3b067 cJ2_getChar_3b067 2 (some .char) :: ([.fieldLink RJ2 44 "java/lang/StringUTF16" "$assertionsDisabled" "Z", .fieldLink RJ2 59 "java/lang/StringUTF16" "HI_BYTE_SHIFT" "I", .fieldLink RJ2 63 "java/lang/StringUTF16" "LO_BYTE_SHIFT" "I", .methodLink RJ2 48 yJ2_length_9d52b, .static yJ2_length_9d52b, .initialized RJ2, .code yJ2_length_9d52b cJ2_length_9d52b 1 (some .int)])
def wsJ2_charAt_3b067 : List Cond := .code yJ2_charAt_3b067 cJ2_charAt_3b067 2 (some .char) :: ([.methodLink RJ2 67 yJ2_checkIndex_2214a, .static yJ2_checkIndex_2214a, .initialized RJ2, .code yJ2_checkIndex_2214a cJ2_checkIndex_2214a 2 none, .methodLink RJ2 48 yJ2_length_9d52b, .static yJ2_length_9d52b, .code yJ2_length_9d52b cJ2_length_9d52b 1 (some .int), .methodLink RJ2 414 yJ0_checkIndex_df160, .static yJ0_checkIndex_df160, .initialized RJ0, .code yJ0_checkIndex_df160 cJ0_checkIndex_df160 2 none, .fieldLink RJ0 1053 "jdk/internal/util/Preconditions" "SIOOBE_FORMATTER" "Ljava/util/function/BiFunction;", .methodLink RJ0 1059 yJ3_checkIndex_8e157, .static yJ3_checkIndex_8e157, .initialized RJ3, .code yJ3_checkIndex_8e157 cJ3_checkIndex_8e157 3 (some .int), .methodLink RJ2 71 yJ2_getChar_3b067, .static yJ2_getChar_3b067, .code yJ2_getChar_3b067 cJ2_getChar_3b067 2 (some .char), .fieldLink RJ2 44 "java/lang/StringUTF16" "$assertionsDisabled" "Z", .fieldLink RJ2 59 "java/lang/StringUTF16" "HI_BYTE_SHIFT" "I", .fieldLink RJ2 63 "java/lang/StringUTF16" "LO_BYTE_SHIFT" "I"])
def wsJ0_charAt_5068e_r1 : List Cond := [Cond.fieldLink RJ0 9 "java/lang/String" "value" "[B", Cond.methodLink RJ0 492 yJ0_isLatin1_aae02, Cond.instanceMethod yJ0_isLatin1_aae02, Cond.selects RJ0 yJ0_isLatin1_aae02 yJ0_isLatin1_aae02, Cond.initialized RJ0, Cond.code yJ0_isLatin1_aae02 cJ0_isLatin1_aae02 1 (some .boolean), Cond.fieldLink RJ0 38 "java/lang/String" "COMPACT_STRINGS" "Z", Cond.fieldLink RJ0 15 "java/lang/String" "coder" "B", Cond.methodLink RJ0 495 yJ1_charAt_3b067, Cond.static yJ1_charAt_3b067, Cond.initialized RJ1, Cond.code yJ1_charAt_3b067 cJ1_charAt_3b067 2 (some .char), Cond.methodLink RJ1 9 yJ0_checkIndex_df160, Cond.static yJ0_checkIndex_df160, Cond.code yJ0_checkIndex_df160 cJ0_checkIndex_df160 2 none, Cond.fieldLink RJ0 1053 "jdk/internal/util/Preconditions" "SIOOBE_FORMATTER" "Ljava/util/function/BiFunction;", Cond.methodLink RJ0 1059 yJ3_checkIndex_8e157, Cond.static yJ3_checkIndex_8e157, Cond.initialized RJ3, Cond.code yJ3_checkIndex_8e157 cJ3_checkIndex_8e157 3 (some .int), Cond.methodLink RJ0 498 yJ2_charAt_3b067, Cond.static yJ2_charAt_3b067, Cond.initialized RJ2, Cond.code yJ2_charAt_3b067 cJ2_charAt_3b067 2 (some .char)]
def wsJ0_charAt_5068e_r2 : List Cond := [Cond.methodLink RJ2 67 yJ2_checkIndex_2214a, Cond.static yJ2_checkIndex_2214a, Cond.code yJ2_checkIndex_2214a cJ2_checkIndex_2214a 2 none, Cond.methodLink RJ2 48 yJ2_length_9d52b, Cond.static yJ2_length_9d52b, Cond.code yJ2_length_9d52b cJ2_length_9d52b 1 (some .int), Cond.methodLink RJ2 414 yJ0_checkIndex_df160, Cond.methodLink RJ2 71 yJ2_getChar_3b067, Cond.static yJ2_getChar_3b067, Cond.code yJ2_getChar_3b067 cJ2_getChar_3b067 2 (some .char), Cond.fieldLink RJ2 44 "java/lang/StringUTF16" "$assertionsDisabled" "Z", Cond.fieldLink RJ2 59 "java/lang/StringUTF16" "HI_BYTE_SHIFT" "I", Cond.fieldLink RJ2 63 "java/lang/StringUTF16" "LO_BYTE_SHIFT" "I"]
def wsJ0_charAt_5068e : List Cond := .code yJ0_charAt_5068e cJ0_charAt_5068e 2 (some .char) :: ((wsJ0_charAt_5068e_r1 ++ wsJ0_charAt_5068e_r2))
def wsX3_isTyped_r1 : List Cond := [Cond.fieldLink RX3 48 "Grievancehall" "typedCount" "I", Cond.fieldLink RX3 9 "Grievancehall" "typed" "[C", Cond.methodLink RX3 229 yJ0_length_8abf5, Cond.instanceMethod yJ0_length_8abf5, Cond.selects RJ0 yJ0_length_8abf5 yJ0_length_8abf5, Cond.initialized RJ0, Cond.code yJ0_length_8abf5 cJ0_length_8abf5 1 (some .int), Cond.fieldLink RJ0 9 "java/lang/String" "value" "[B", Cond.methodLink RJ0 335 yJ0_coder_7d493, Cond.instanceMethod yJ0_coder_7d493, Cond.selects RJ0 yJ0_coder_7d493 yJ0_coder_7d493, Cond.code yJ0_coder_7d493 cJ0_coder_7d493 1 (some .byte), Cond.fieldLink RJ0 38 "java/lang/String" "COMPACT_STRINGS" "Z", Cond.fieldLink RJ0 15 "java/lang/String" "coder" "B", Cond.methodLink RX3 234 yJ0_charAt_5068e, Cond.instanceMethod yJ0_charAt_5068e, Cond.selects RJ0 yJ0_charAt_5068e yJ0_charAt_5068e, Cond.code yJ0_charAt_5068e cJ0_charAt_5068e 2 (some .char), Cond.methodLink RJ0 492 yJ0_isLatin1_aae02, Cond.instanceMethod yJ0_isLatin1_aae02, Cond.selects RJ0 yJ0_isLatin1_aae02 yJ0_isLatin1_aae02, Cond.code yJ0_isLatin1_aae02 cJ0_isLatin1_aae02 1 (some .boolean), Cond.methodLink RJ0 495 yJ1_charAt_3b067, Cond.static yJ1_charAt_3b067]
def wsX3_isTyped_r2 : List Cond := [Cond.initialized RJ1, Cond.code yJ1_charAt_3b067 cJ1_charAt_3b067 2 (some .char), Cond.methodLink RJ1 9 yJ0_checkIndex_df160, Cond.static yJ0_checkIndex_df160, Cond.code yJ0_checkIndex_df160 cJ0_checkIndex_df160 2 none, Cond.fieldLink RJ0 1053 "jdk/internal/util/Preconditions" "SIOOBE_FORMATTER" "Ljava/util/function/BiFunction;", Cond.methodLink RJ0 1059 yJ3_checkIndex_8e157, Cond.static yJ3_checkIndex_8e157, Cond.initialized RJ3, Cond.code yJ3_checkIndex_8e157 cJ3_checkIndex_8e157 3 (some .int), Cond.methodLink RJ0 498 yJ2_charAt_3b067, Cond.static yJ2_charAt_3b067, Cond.initialized RJ2, Cond.code yJ2_charAt_3b067 cJ2_charAt_3b067 2 (some .char), Cond.methodLink RJ2 67 yJ2_checkIndex_2214a, Cond.static yJ2_checkIndex_2214a, Cond.code yJ2_checkIndex_2214a cJ2_checkIndex_2214a 2 none, Cond.methodLink RJ2 48 yJ2_length_9d52b, Cond.static yJ2_length_9d52b, Cond.code yJ2_length_9d52b cJ2_length_9d52b 1 (some .int), Cond.methodLink RJ2 414 yJ0_checkIndex_df160, Cond.methodLink RJ2 71 yJ2_getChar_3b067, Cond.static yJ2_getChar_3b067, Cond.code yJ2_getChar_3b067 cJ2_getChar_3b067 2 (some .char)]
def wsX3_isTyped_r3 : List Cond := [Cond.fieldLink RJ2 44 "java/lang/StringUTF16" "$assertionsDisabled" "Z", Cond.fieldLink RJ2 59 "java/lang/StringUTF16" "HI_BYTE_SHIFT" "I", Cond.fieldLink RJ2 63 "java/lang/StringUTF16" "LO_BYTE_SHIFT" "I"]
def wsX3_isTyped : List Cond := .code yX3_isTyped cX3_isTyped 3 (some .boolean) :: ((wsX3_isTyped_r1 ++ (wsX3_isTyped_r2 ++ wsX3_isTyped_r3)) ++ wsX30)
def wsX3_typedKind_r1 : List Cond := [Cond.methodLink RX3 221 yX3_wordOf, Cond.static yX3_wordOf, Cond.initialized RX3, Cond.code yX3_wordOf cX3_wordOf 1 (some (.object "java/lang/String")), Cond.methodLink RX3 225 yX3_isTyped, Cond.instanceMethod yX3_isTyped, Cond.selects RX3 yX3_isTyped yX3_isTyped, Cond.code yX3_isTyped cX3_isTyped 3 (some .boolean), Cond.fieldLink RX3 48 "Grievancehall" "typedCount" "I", Cond.fieldLink RX3 9 "Grievancehall" "typed" "[C", Cond.methodLink RX3 229 yJ0_length_8abf5, Cond.instanceMethod yJ0_length_8abf5, Cond.selects RJ0 yJ0_length_8abf5 yJ0_length_8abf5, Cond.initialized RJ0, Cond.code yJ0_length_8abf5 cJ0_length_8abf5 1 (some .int), Cond.fieldLink RJ0 9 "java/lang/String" "value" "[B", Cond.methodLink RJ0 335 yJ0_coder_7d493, Cond.instanceMethod yJ0_coder_7d493, Cond.selects RJ0 yJ0_coder_7d493 yJ0_coder_7d493, Cond.code yJ0_coder_7d493 cJ0_coder_7d493 1 (some .byte), Cond.fieldLink RJ0 38 "java/lang/String" "COMPACT_STRINGS" "Z", Cond.fieldLink RJ0 15 "java/lang/String" "coder" "B", Cond.methodLink RX3 234 yJ0_charAt_5068e, Cond.instanceMethod yJ0_charAt_5068e]
def wsX3_typedKind_r2 : List Cond := [Cond.selects RJ0 yJ0_charAt_5068e yJ0_charAt_5068e, Cond.code yJ0_charAt_5068e cJ0_charAt_5068e 2 (some .char), Cond.methodLink RJ0 492 yJ0_isLatin1_aae02, Cond.instanceMethod yJ0_isLatin1_aae02, Cond.selects RJ0 yJ0_isLatin1_aae02 yJ0_isLatin1_aae02, Cond.code yJ0_isLatin1_aae02 cJ0_isLatin1_aae02 1 (some .boolean), Cond.methodLink RJ0 495 yJ1_charAt_3b067, Cond.static yJ1_charAt_3b067, Cond.initialized RJ1, Cond.code yJ1_charAt_3b067 cJ1_charAt_3b067 2 (some .char), Cond.methodLink RJ1 9 yJ0_checkIndex_df160, Cond.static yJ0_checkIndex_df160, Cond.code yJ0_checkIndex_df160 cJ0_checkIndex_df160 2 none, Cond.fieldLink RJ0 1053 "jdk/internal/util/Preconditions" "SIOOBE_FORMATTER" "Ljava/util/function/BiFunction;", Cond.methodLink RJ0 1059 yJ3_checkIndex_8e157, Cond.static yJ3_checkIndex_8e157, Cond.initialized RJ3, Cond.code yJ3_checkIndex_8e157 cJ3_checkIndex_8e157 3 (some .int), Cond.methodLink RJ0 498 yJ2_charAt_3b067, Cond.static yJ2_charAt_3b067, Cond.initialized RJ2, Cond.code yJ2_charAt_3b067 cJ2_charAt_3b067 2 (some .char), Cond.methodLink RJ2 67 yJ2_checkIndex_2214a, Cond.static yJ2_checkIndex_2214a]
def wsX3_typedKind_r3 : List Cond := [Cond.code yJ2_checkIndex_2214a cJ2_checkIndex_2214a 2 none, Cond.methodLink RJ2 48 yJ2_length_9d52b, Cond.static yJ2_length_9d52b, Cond.code yJ2_length_9d52b cJ2_length_9d52b 1 (some .int), Cond.methodLink RJ2 414 yJ0_checkIndex_df160, Cond.methodLink RJ2 71 yJ2_getChar_3b067, Cond.static yJ2_getChar_3b067, Cond.code yJ2_getChar_3b067 cJ2_getChar_3b067 2 (some .char), Cond.fieldLink RJ2 44 "java/lang/StringUTF16" "$assertionsDisabled" "Z", Cond.fieldLink RJ2 59 "java/lang/StringUTF16" "HI_BYTE_SHIFT" "I", Cond.fieldLink RJ2 63 "java/lang/StringUTF16" "LO_BYTE_SHIFT" "I"]
def wsX3_typedKind : List Cond := .code yX3_typedKind cX3_typedKind 2 (some .int) :: ((wsX3_typedKind_r1 ++ (wsX3_typedKind_r2 ++ wsX3_typedKind_r3)) ++ wsX30)
def wsX3_act_r1 : List Cond := [Cond.classLink RX3 52 "java/lang/IllegalStateException", Cond.initialized "java/lang/IllegalStateException", Cond.fieldLink RX3 57 "Grievancehall" "officeCount" "I", Cond.fieldLink RX3 86 "Grievancehall" "actCount" "I", Cond.fieldLink RX3 48 "Grievancehall" "typedCount" "I", Cond.fieldLink RX3 29 "Grievancehall" "acts" "[LGrievancehall$Act;", Cond.fieldLink RX3 68 "Grievancehall" "today" "I", Cond.methodLink RX3 60 yX3_needNumber, Cond.static yX3_needNumber, Cond.initialized RX3, Cond.code yX3_needNumber cX3_needNumber 2 none, Cond.classLink RX3 206 "java/lang/IndexOutOfBoundsException", Cond.initialized "java/lang/IndexOutOfBoundsException", Cond.methodLink RX3 79 yX3_needRange, Cond.static yX3_needRange, Cond.code yX3_needRange cX3_needRange 3 none, Cond.classLink RX3 41 "java/lang/IllegalArgumentException", Cond.initialized "java/lang/IllegalArgumentException", Cond.methodLink RX3 91 yX3_typedKind, Cond.instanceMethod yX3_typedKind, Cond.selects RX3 yX3_typedKind yX3_typedKind, Cond.code yX3_typedKind cX3_typedKind 2 (some .int), Cond.methodLink RX3 221 yX3_wordOf, Cond.static yX3_wordOf]
def wsX3_act_r2 : List Cond := [Cond.code yX3_wordOf cX3_wordOf 1 (some (.object "java/lang/String")), Cond.methodLink RX3 225 yX3_isTyped, Cond.instanceMethod yX3_isTyped, Cond.selects RX3 yX3_isTyped yX3_isTyped, Cond.code yX3_isTyped cX3_isTyped 3 (some .boolean), Cond.fieldLink RX3 9 "Grievancehall" "typed" "[C", Cond.methodLink RX3 229 yJ0_length_8abf5, Cond.instanceMethod yJ0_length_8abf5, Cond.selects RJ0 yJ0_length_8abf5 yJ0_length_8abf5, Cond.initialized RJ0, Cond.code yJ0_length_8abf5 cJ0_length_8abf5 1 (some .int), Cond.fieldLink RJ0 9 "java/lang/String" "value" "[B", Cond.methodLink RJ0 335 yJ0_coder_7d493, Cond.instanceMethod yJ0_coder_7d493, Cond.selects RJ0 yJ0_coder_7d493 yJ0_coder_7d493, Cond.code yJ0_coder_7d493 cJ0_coder_7d493 1 (some .byte), Cond.fieldLink RJ0 38 "java/lang/String" "COMPACT_STRINGS" "Z", Cond.fieldLink RJ0 15 "java/lang/String" "coder" "B", Cond.methodLink RX3 234 yJ0_charAt_5068e, Cond.instanceMethod yJ0_charAt_5068e, Cond.selects RJ0 yJ0_charAt_5068e yJ0_charAt_5068e, Cond.code yJ0_charAt_5068e cJ0_charAt_5068e 2 (some .char), Cond.methodLink RJ0 492 yJ0_isLatin1_aae02, Cond.instanceMethod yJ0_isLatin1_aae02]
def wsX3_act_r3 : List Cond := [Cond.selects RJ0 yJ0_isLatin1_aae02 yJ0_isLatin1_aae02, Cond.code yJ0_isLatin1_aae02 cJ0_isLatin1_aae02 1 (some .boolean), Cond.methodLink RJ0 495 yJ1_charAt_3b067, Cond.static yJ1_charAt_3b067, Cond.initialized RJ1, Cond.code yJ1_charAt_3b067 cJ1_charAt_3b067 2 (some .char), Cond.methodLink RJ1 9 yJ0_checkIndex_df160, Cond.static yJ0_checkIndex_df160, Cond.code yJ0_checkIndex_df160 cJ0_checkIndex_df160 2 none, Cond.fieldLink RJ0 1053 "jdk/internal/util/Preconditions" "SIOOBE_FORMATTER" "Ljava/util/function/BiFunction;", Cond.methodLink RJ0 1059 yJ3_checkIndex_8e157, Cond.static yJ3_checkIndex_8e157, Cond.initialized RJ3, Cond.code yJ3_checkIndex_8e157 cJ3_checkIndex_8e157 3 (some .int), Cond.methodLink RJ0 498 yJ2_charAt_3b067, Cond.static yJ2_charAt_3b067, Cond.initialized RJ2, Cond.code yJ2_charAt_3b067 cJ2_charAt_3b067 2 (some .char), Cond.methodLink RJ2 67 yJ2_checkIndex_2214a, Cond.static yJ2_checkIndex_2214a, Cond.code yJ2_checkIndex_2214a cJ2_checkIndex_2214a 2 none, Cond.methodLink RJ2 48 yJ2_length_9d52b, Cond.static yJ2_length_9d52b, Cond.code yJ2_length_9d52b cJ2_length_9d52b 1 (some .int)]
def wsX3_act_r4 : List Cond := [Cond.methodLink RJ2 414 yJ0_checkIndex_df160, Cond.methodLink RJ2 71 yJ2_getChar_3b067, Cond.static yJ2_getChar_3b067, Cond.code yJ2_getChar_3b067 cJ2_getChar_3b067 2 (some .char), Cond.fieldLink RJ2 44 "java/lang/StringUTF16" "$assertionsDisabled" "Z", Cond.fieldLink RJ2 59 "java/lang/StringUTF16" "HI_BYTE_SHIFT" "I", Cond.fieldLink RJ2 63 "java/lang/StringUTF16" "LO_BYTE_SHIFT" "I", Cond.methodLink RX3 82 yX3_ownerOn, Cond.instanceMethod yX3_ownerOn, Cond.selects RX3 yX3_ownerOn yX3_ownerOn, Cond.code yX3_ownerOn cX3_ownerOn 6 (some .int), Cond.fieldLink RX3 20 "Grievancehall" "delegations" "LGrievancehall$Changes;", Cond.methodLink RX3 71 yX1_valueOn, Cond.instanceMethod yX1_valueOn, Cond.selects RX1 yX1_valueOn yX1_valueOn, Cond.initialized RX1, Cond.code yX1_valueOn cX1_valueOn 5 (some .int), Cond.fieldLink RX1 21 "Grievancehall$Changes" "count" "I", Cond.fieldLink RX1 9 "Grievancehall$Changes" "things" "[I", Cond.fieldLink RX1 15 "Grievancehall$Changes" "days" "[I", Cond.fieldLink RX1 18 "Grievancehall$Changes" "values" "[I", Cond.methodLink RX3 95 yX0_begin, Cond.instanceMethod yX0_begin, Cond.selects RX0 yX0_begin yX0_begin]
def wsX3_act_r5 : List Cond := [Cond.initialized RX0, Cond.code yX0_begin cX0_begin 6 none, Cond.fieldLink RX0 19 "Grievancehall$Act" "owner" "I", Cond.fieldLink RX0 22 "Grievancehall$Act" "kind" "I", Cond.fieldLink RX0 25 "Grievancehall$Act" "day" "I", Cond.fieldLink RX0 28 "Grievancehall$Act" "measure" "I", Cond.fieldLink RX0 31 "Grievancehall$Act" "harm" "I"]
def wsX3_act : List Cond := .code yX3_act cX3_act 6 (some .int) :: ((wsX3_act_r1 ++ (wsX3_act_r2 ++ (wsX3_act_r3 ++ (wsX3_act_r4 ++ wsX3_act_r5)))) ++ wsX30 ++ wsX10 ++ wsX00 ++ (vx_atS RX3 56 "java/lang/IllegalStateException" ["java/lang/RuntimeException", "java/lang/Exception"]).filter goodWord ++ (vx_atS RX3 210 "java/lang/IndexOutOfBoundsException" ["java/lang/RuntimeException", "java/lang/Exception"]).filter goodWord ++ (vx_atS RX3 45 "java/lang/IllegalArgumentException" ["java/lang/RuntimeException", "java/lang/Exception"]).filter goodWord)
def wsX3_court : List Cond := .code yX3_court cX3_court 4 (some .boolean) :: ([.fieldLink RX3 86 "Grievancehall" "actCount" "I", .fieldLink RX3 29 "Grievancehall" "acts" "[LGrievancehall$Act;", .fieldLink RX3 99 "Grievancehall$Act" "inCourt" "Z", .methodLink RX3 60 yX3_needNumber, .static yX3_needNumber, .initialized RX3, .code yX3_needNumber cX3_needNumber 2 none, .classLink RX3 206 "java/lang/IndexOutOfBoundsException", .initialized "java/lang/IndexOutOfBoundsException"] ++ wsX30 ++ wsX00 ++ (vx_atS RX3 210 "java/lang/IndexOutOfBoundsException" ["java/lang/RuntimeException", "java/lang/Exception"]).filter goodWord)
def wsX3_waive : List Cond := .code yX3_waive cX3_waive 4 (some .boolean) :: ([.fieldLink RX3 86 "Grievancehall" "actCount" "I", .fieldLink RX3 29 "Grievancehall" "acts" "[LGrievancehall$Act;", .fieldLink RX3 103 "Grievancehall$Act" "timeWaived" "Z", .methodLink RX3 60 yX3_needNumber, .static yX3_needNumber, .initialized RX3, .code yX3_needNumber cX3_needNumber 2 none, .classLink RX3 206 "java/lang/IndexOutOfBoundsException", .initialized "java/lang/IndexOutOfBoundsException"] ++ wsX30 ++ wsX00 ++ (vx_atS RX3 210 "java/lang/IndexOutOfBoundsException" ["java/lang/RuntimeException", "java/lang/Exception"]).filter goodWord)
def wsX3_plea : List Cond := .code yX3_plea cX3_plea 3 none :: ([.classLink RX3 52 "java/lang/IllegalStateException", .initialized "java/lang/IllegalStateException", .fieldLink RX3 86 "Grievancehall" "actCount" "I", .fieldLink RX3 29 "Grievancehall" "acts" "[LGrievancehall$Act;", .fieldLink RX3 106 "Grievancehall$Act" "pleaDays" "[I", .fieldLink RX3 68 "Grievancehall" "today" "I", .methodLink RX3 60 yX3_needNumber, .static yX3_needNumber, .initialized RX3, .code yX3_needNumber cX3_needNumber 2 none, .classLink RX3 206 "java/lang/IndexOutOfBoundsException", .initialized "java/lang/IndexOutOfBoundsException"] ++ wsX30 ++ wsX00 ++ (vx_atS RX3 56 "java/lang/IllegalStateException" ["java/lang/RuntimeException", "java/lang/Exception"]).filter goodWord ++ (vx_atS RX3 210 "java/lang/IndexOutOfBoundsException" ["java/lang/RuntimeException", "java/lang/Exception"]).filter goodWord)
def wsX3_bar : List Cond := .code yX3_bar cX3_bar 3 (some .int) :: ([.fieldLink RX3 86 "Grievancehall" "actCount" "I", .fieldLink RX3 29 "Grievancehall" "acts" "[LGrievancehall$Act;", .fieldLink RX3 68 "Grievancehall" "today" "I", .methodLink RX3 60 yX3_needNumber, .static yX3_needNumber, .initialized RX3, .code yX3_needNumber cX3_needNumber 2 none, .classLink RX3 206 "java/lang/IndexOutOfBoundsException", .initialized "java/lang/IndexOutOfBoundsException", .methodLink RX3 111 yX0_barOn, .instanceMethod yX0_barOn, .selects RX0 yX0_barOn yX0_barOn, .initialized RX0, .code yX0_barOn cX0_barOn 3 (some .int), .fieldLink RX0 9 "Grievancehall$Act" "pleaDays" "[I", .fieldLink RX0 34 "Grievancehall$Act" "inCourt" "Z", .fieldLink RX0 25 "Grievancehall$Act" "day" "I", .fieldLink RX0 38 "Grievancehall$Act" "timeWaived" "Z"] ++ wsX30 ++ wsX00 ++ (vx_atS RX3 210 "java/lang/IndexOutOfBoundsException" ["java/lang/RuntimeException", "java/lang/Exception"]).filter goodWord)
def wsX3_complaintToJoin : List Cond := .code yX3_complaintToJoin cX3_complaintToJoin 3 (some .int) :: ([.fieldLink RX3 127 "Grievancehall" "complaintCount" "I", .fieldLink RX3 36 "Grievancehall" "complaints" "[LGrievancehall$Complaint;", .fieldLink RX3 141 "Grievancehall$Complaint" "actNumber" "I", .fieldLink RX3 130 "Grievancehall$Complaint" "state" "I"] ++ wsX30 ++ wsX20)
def wsX3_beginComplaint : List Cond := .code yX3_beginComplaint cX3_beginComplaint 3 (some .int) :: ([.classLink RX3 52 "java/lang/IllegalStateException", .initialized "java/lang/IllegalStateException", .fieldLink RX3 127 "Grievancehall" "complaintCount" "I", .fieldLink RX3 36 "Grievancehall" "complaints" "[LGrievancehall$Complaint;", .methodLink RX3 240 yX2_begin, .instanceMethod yX2_begin, .selects RX2 yX2_begin yX2_begin, .initialized RX2, .code yX2_begin cX2_begin 2 none, .fieldLink RX2 9 "Grievancehall$Complaint" "actNumber" "I", .fieldLink RX2 15 "Grievancehall$Complaint" "state" "I", .fieldLink RX2 18 "Grievancehall$Complaint" "daysLeft" "I", .fieldLink RX2 21 "Grievancehall$Complaint" "file" "I", .fieldLink RX2 24 "Grievancehall$Complaint" "finding" "I"] ++ wsX30 ++ wsX20 ++ (vx_atS RX3 56 "java/lang/IllegalStateException" ["java/lang/RuntimeException", "java/lang/Exception"]).filter goodWord)
def wsX3_complain_r1 : List Cond := [Cond.classLink RX3 52 "java/lang/IllegalStateException", Cond.initialized "java/lang/IllegalStateException", Cond.fieldLink RX3 86 "Grievancehall" "actCount" "I", Cond.fieldLink RX3 29 "Grievancehall" "acts" "[LGrievancehall$Act;", Cond.fieldLink RX3 68 "Grievancehall" "today" "I", Cond.fieldLink RX3 36 "Grievancehall" "complaints" "[LGrievancehall$Complaint;", Cond.methodLink RX3 60 yX3_needNumber, Cond.static yX3_needNumber, Cond.initialized RX3, Cond.code yX3_needNumber cX3_needNumber 2 none, Cond.classLink RX3 206 "java/lang/IndexOutOfBoundsException", Cond.initialized "java/lang/IndexOutOfBoundsException", Cond.methodLink RX3 111 yX0_barOn, Cond.instanceMethod yX0_barOn, Cond.selects RX0 yX0_barOn yX0_barOn, Cond.initialized RX0, Cond.code yX0_barOn cX0_barOn 3 (some .int), Cond.fieldLink RX0 9 "Grievancehall$Act" "pleaDays" "[I", Cond.fieldLink RX0 34 "Grievancehall$Act" "inCourt" "Z", Cond.fieldLink RX0 25 "Grievancehall$Act" "day" "I", Cond.fieldLink RX0 38 "Grievancehall$Act" "timeWaived" "Z", Cond.methodLink RX3 116 yX3_complaintToJoin, Cond.instanceMethod yX3_complaintToJoin, Cond.selects RX3 yX3_complaintToJoin yX3_complaintToJoin]
def wsX3_complain_r2 : List Cond := [Cond.code yX3_complaintToJoin cX3_complaintToJoin 3 (some .int), Cond.fieldLink RX3 127 "Grievancehall" "complaintCount" "I", Cond.fieldLink RX3 141 "Grievancehall$Complaint" "actNumber" "I", Cond.fieldLink RX3 130 "Grievancehall$Complaint" "state" "I", Cond.methodLink RX3 120 yX3_beginComplaint, Cond.instanceMethod yX3_beginComplaint, Cond.selects RX3 yX3_beginComplaint yX3_beginComplaint, Cond.code yX3_beginComplaint cX3_beginComplaint 3 (some .int), Cond.methodLink RX3 240 yX2_begin, Cond.instanceMethod yX2_begin, Cond.selects RX2 yX2_begin yX2_begin, Cond.initialized RX2, Cond.code yX2_begin cX2_begin 2 none, Cond.fieldLink RX2 9 "Grievancehall$Complaint" "actNumber" "I", Cond.fieldLink RX2 15 "Grievancehall$Complaint" "state" "I", Cond.fieldLink RX2 18 "Grievancehall$Complaint" "daysLeft" "I", Cond.fieldLink RX2 21 "Grievancehall$Complaint" "file" "I", Cond.fieldLink RX2 24 "Grievancehall$Complaint" "finding" "I", Cond.methodLink RX3 123 yX2_join, Cond.instanceMethod yX2_join, Cond.selects RX2 yX2_join yX2_join, Cond.code yX2_join cX2_join 2 none, Cond.fieldLink RX2 27 "Grievancehall$Complaint" "people" "I"]
def wsX3_complain : List Cond := .code yX3_complain cX3_complain 4 (some .int) :: ((wsX3_complain_r1 ++ wsX3_complain_r2) ++ wsX30 ++ wsX00 ++ wsX20 ++ (vx_atS RX3 56 "java/lang/IllegalStateException" ["java/lang/RuntimeException", "java/lang/Exception"]).filter goodWord ++ (vx_atS RX3 210 "java/lang/IndexOutOfBoundsException" ["java/lang/RuntimeException", "java/lang/Exception"]).filter goodWord)
def wsX3_ask : List Cond := .code yX3_ask cX3_ask 3 (some .int) :: ([.classLink RX3 52 "java/lang/IllegalStateException", .initialized "java/lang/IllegalStateException", .fieldLink RX3 127 "Grievancehall" "complaintCount" "I", .fieldLink RX3 36 "Grievancehall" "complaints" "[LGrievancehall$Complaint;", .fieldLink RX3 130 "Grievancehall$Complaint" "state" "I", .fieldLink RX3 133 "Grievancehall$Complaint" "file" "I", .fieldLink RX3 68 "Grievancehall" "today" "I", .fieldLink RX3 138 "Grievancehall$Complaint" "askedDay" "I", .fieldLink RX3 29 "Grievancehall" "acts" "[LGrievancehall$Act;", .fieldLink RX3 141 "Grievancehall$Complaint" "actNumber" "I", .fieldLink RX3 144 "Grievancehall$Act" "owner" "I", .methodLink RX3 60 yX3_needNumber, .static yX3_needNumber, .initialized RX3, .code yX3_needNumber cX3_needNumber 2 none, .classLink RX3 206 "java/lang/IndexOutOfBoundsException", .initialized "java/lang/IndexOutOfBoundsException"] ++ wsX30 ++ wsX20 ++ wsX00 ++ (vx_atS RX3 56 "java/lang/IllegalStateException" ["java/lang/RuntimeException", "java/lang/Exception"]).filter goodWord ++ (vx_atS RX3 210 "java/lang/IndexOutOfBoundsException" ["java/lang/RuntimeException", "java/lang/Exception"]).filter goodWord)
def wsX3_answer : List Cond := .code yX3_answer cX3_answer 3 (some .int) :: ([.classLink RX3 52 "java/lang/IllegalStateException", .initialized "java/lang/IllegalStateException", .fieldLink RX3 127 "Grievancehall" "complaintCount" "I", .fieldLink RX3 36 "Grievancehall" "complaints" "[LGrievancehall$Complaint;", .fieldLink RX3 133 "Grievancehall$Complaint" "file" "I", .fieldLink RX3 68 "Grievancehall" "today" "I", .fieldLink RX3 138 "Grievancehall$Complaint" "askedDay" "I", .methodLink RX3 60 yX3_needNumber, .static yX3_needNumber, .initialized RX3, .code yX3_needNumber cX3_needNumber 2 none, .classLink RX3 206 "java/lang/IndexOutOfBoundsException", .initialized "java/lang/IndexOutOfBoundsException"] ++ wsX30 ++ wsX20 ++ (vx_atS RX3 56 "java/lang/IllegalStateException" ["java/lang/RuntimeException", "java/lang/Exception"]).filter goodWord ++ (vx_atS RX3 210 "java/lang/IndexOutOfBoundsException" ["java/lang/RuntimeException", "java/lang/Exception"]).filter goodWord)
def wsX3_hear : List Cond := .code yX3_hear cX3_hear 3 none :: ([.classLink RX3 52 "java/lang/IllegalStateException", .initialized "java/lang/IllegalStateException", .fieldLink RX3 127 "Grievancehall" "complaintCount" "I", .fieldLink RX3 36 "Grievancehall" "complaints" "[LGrievancehall$Complaint;", .fieldLink RX3 130 "Grievancehall$Complaint" "state" "I", .fieldLink RX3 133 "Grievancehall$Complaint" "file" "I", .fieldLink RX3 149 "Grievancehall$Complaint" "officerHeard" "Z", .methodLink RX3 60 yX3_needNumber, .static yX3_needNumber, .initialized RX3, .code yX3_needNumber cX3_needNumber 2 none, .classLink RX3 206 "java/lang/IndexOutOfBoundsException", .initialized "java/lang/IndexOutOfBoundsException"] ++ wsX30 ++ wsX20 ++ (vx_atS RX3 56 "java/lang/IllegalStateException" ["java/lang/RuntimeException", "java/lang/Exception"]).filter goodWord ++ (vx_atS RX3 210 "java/lang/IndexOutOfBoundsException" ["java/lang/RuntimeException", "java/lang/Exception"]).filter goodWord)
def wsX3_failsRule : List Cond := .code yX3_failsRule cX3_failsRule 2 (some .boolean) :: ([.fieldLink RX3 29 "Grievancehall" "acts" "[LGrievancehall$Act;", .fieldLink RX3 199 "Grievancehall$Act" "measure" "I", .fieldLink RX3 24 "Grievancehall" "limits" "LGrievancehall$Changes;", .fieldLink RX3 196 "Grievancehall$Act" "kind" "I", .fieldLink RX3 242 "Grievancehall$Act" "day" "I", .methodLink RX3 71 yX1_valueOn, .instanceMethod yX1_valueOn, .selects RX1 yX1_valueOn yX1_valueOn, .initialized RX1, .code yX1_valueOn cX1_valueOn 5 (some .int), .fieldLink RX1 21 "Grievancehall$Changes" "count" "I", .fieldLink RX1 9 "Grievancehall$Changes" "things" "[I", .fieldLink RX1 15 "Grievancehall$Changes" "days" "[I", .fieldLink RX1 18 "Grievancehall$Changes" "values" "[I"] ++ wsX30 ++ wsX00 ++ wsX10)
def wsX3_isLike : List Cond := .code yX3_isLike cX3_isLike 3 (some .boolean) :: ([.fieldLink RX3 29 "Grievancehall" "acts" "[LGrievancehall$Act;", .fieldLink RX3 196 "Grievancehall$Act" "kind" "I", .fieldLink RX3 144 "Grievancehall$Act" "owner" "I"] ++ wsX30 ++ wsX00)
def wsX3_countLikes : List Cond := .code yX3_countLikes cX3_countLikes 4 (some .int) :: ([.fieldLink RX3 86 "Grievancehall" "actCount" "I", .methodLink RX3 164 yX3_isLike, .instanceMethod yX3_isLike, .selects RX3 yX3_isLike yX3_isLike, .initialized RX3, .code yX3_isLike cX3_isLike 3 (some .boolean), .fieldLink RX3 29 "Grievancehall" "acts" "[LGrievancehall$Act;", .fieldLink RX3 196 "Grievancehall$Act" "kind" "I", .fieldLink RX3 144 "Grievancehall$Act" "owner" "I"] ++ wsX30 ++ wsX00)
def wsX3_sumOfLikes : List Cond := .code yX3_sumOfLikes cX3_sumOfLikes 4 (some .int) :: ([.fieldLink RX3 86 "Grievancehall" "actCount" "I", .fieldLink RX3 29 "Grievancehall" "acts" "[LGrievancehall$Act;", .fieldLink RX3 199 "Grievancehall$Act" "measure" "I", .methodLink RX3 164 yX3_isLike, .instanceMethod yX3_isLike, .selects RX3 yX3_isLike yX3_isLike, .initialized RX3, .code yX3_isLike cX3_isLike 3 (some .boolean), .fieldLink RX3 196 "Grievancehall$Act" "kind" "I", .fieldLink RX3 144 "Grievancehall$Act" "owner" "I"] ++ wsX30 ++ wsX00)
def wsX3_isUnequal : List Cond := .code yX3_isUnequal cX3_isUnequal 4 (some .boolean) :: ([.fieldLink RX3 29 "Grievancehall" "acts" "[LGrievancehall$Act;", .fieldLink RX3 199 "Grievancehall$Act" "measure" "I", .methodLink RX3 190 yX3_countLikes, .instanceMethod yX3_countLikes, .selects RX3 yX3_countLikes yX3_countLikes, .initialized RX3, .code yX3_countLikes cX3_countLikes 4 (some .int), .fieldLink RX3 86 "Grievancehall" "actCount" "I", .methodLink RX3 164 yX3_isLike, .instanceMethod yX3_isLike, .selects RX3 yX3_isLike yX3_isLike, .code yX3_isLike cX3_isLike 3 (some .boolean), .fieldLink RX3 196 "Grievancehall$Act" "kind" "I", .fieldLink RX3 144 "Grievancehall$Act" "owner" "I", .methodLink RX3 245 yX3_sumOfLikes, .instanceMethod yX3_sumOfLikes, .selects RX3 yX3_sumOfLikes yX3_sumOfLikes, .code yX3_sumOfLikes cX3_sumOfLikes 4 (some .int)] ++ wsX30 ++ wsX00)
def wsX3_faultOf_r1 : List Cond := [Cond.methodLink RX3 202 yX3_failsRule, Cond.instanceMethod yX3_failsRule, Cond.selects RX3 yX3_failsRule yX3_failsRule, Cond.initialized RX3, Cond.code yX3_failsRule cX3_failsRule 2 (some .boolean), Cond.fieldLink RX3 29 "Grievancehall" "acts" "[LGrievancehall$Act;", Cond.fieldLink RX3 199 "Grievancehall$Act" "measure" "I", Cond.fieldLink RX3 24 "Grievancehall" "limits" "LGrievancehall$Changes;", Cond.fieldLink RX3 196 "Grievancehall$Act" "kind" "I", Cond.fieldLink RX3 242 "Grievancehall$Act" "day" "I", Cond.methodLink RX3 71 yX1_valueOn, Cond.instanceMethod yX1_valueOn, Cond.selects RX1 yX1_valueOn yX1_valueOn, Cond.initialized RX1, Cond.code yX1_valueOn cX1_valueOn 5 (some .int), Cond.fieldLink RX1 21 "Grievancehall$Changes" "count" "I", Cond.fieldLink RX1 9 "Grievancehall$Changes" "things" "[I", Cond.fieldLink RX1 15 "Grievancehall$Changes" "days" "[I", Cond.fieldLink RX1 18 "Grievancehall$Changes" "values" "[I", Cond.methodLink RX3 248 yX3_isUnequal, Cond.instanceMethod yX3_isUnequal, Cond.selects RX3 yX3_isUnequal yX3_isUnequal, Cond.code yX3_isUnequal cX3_isUnequal 4 (some .boolean), Cond.methodLink RX3 190 yX3_countLikes]
def wsX3_faultOf_r2 : List Cond := [Cond.instanceMethod yX3_countLikes, Cond.selects RX3 yX3_countLikes yX3_countLikes, Cond.code yX3_countLikes cX3_countLikes 4 (some .int), Cond.fieldLink RX3 86 "Grievancehall" "actCount" "I", Cond.methodLink RX3 164 yX3_isLike, Cond.instanceMethod yX3_isLike, Cond.selects RX3 yX3_isLike yX3_isLike, Cond.code yX3_isLike cX3_isLike 3 (some .boolean), Cond.fieldLink RX3 144 "Grievancehall$Act" "owner" "I", Cond.methodLink RX3 245 yX3_sumOfLikes, Cond.instanceMethod yX3_sumOfLikes, Cond.selects RX3 yX3_sumOfLikes yX3_sumOfLikes, Cond.code yX3_sumOfLikes cX3_sumOfLikes 4 (some .int)]
def wsX3_faultOf : List Cond := .code yX3_faultOf cX3_faultOf 3 (some .int) :: ((wsX3_faultOf_r1 ++ wsX3_faultOf_r2) ++ wsX30 ++ wsX00 ++ wsX10)
def wsX3_find_r1 : List Cond := [Cond.classLink RX3 52 "java/lang/IllegalStateException", Cond.initialized "java/lang/IllegalStateException", Cond.fieldLink RX3 127 "Grievancehall" "complaintCount" "I", Cond.fieldLink RX3 36 "Grievancehall" "complaints" "[LGrievancehall$Complaint;", Cond.fieldLink RX3 130 "Grievancehall$Complaint" "state" "I", Cond.fieldLink RX3 149 "Grievancehall$Complaint" "officerHeard" "Z", Cond.fieldLink RX3 141 "Grievancehall$Complaint" "actNumber" "I", Cond.fieldLink RX3 159 "Grievancehall$Complaint" "finding" "I", Cond.methodLink RX3 60 yX3_needNumber, Cond.static yX3_needNumber, Cond.initialized RX3, Cond.code yX3_needNumber cX3_needNumber 2 none, Cond.classLink RX3 206 "java/lang/IndexOutOfBoundsException", Cond.initialized "java/lang/IndexOutOfBoundsException", Cond.methodLink RX3 156 yX3_faultOf, Cond.instanceMethod yX3_faultOf, Cond.selects RX3 yX3_faultOf yX3_faultOf, Cond.code yX3_faultOf cX3_faultOf 3 (some .int), Cond.methodLink RX3 202 yX3_failsRule, Cond.instanceMethod yX3_failsRule, Cond.selects RX3 yX3_failsRule yX3_failsRule, Cond.code yX3_failsRule cX3_failsRule 2 (some .boolean), Cond.fieldLink RX3 29 "Grievancehall" "acts" "[LGrievancehall$Act;", Cond.fieldLink RX3 199 "Grievancehall$Act" "measure" "I"]
def wsX3_find_r2 : List Cond := [Cond.fieldLink RX3 24 "Grievancehall" "limits" "LGrievancehall$Changes;", Cond.fieldLink RX3 196 "Grievancehall$Act" "kind" "I", Cond.fieldLink RX3 242 "Grievancehall$Act" "day" "I", Cond.methodLink RX3 71 yX1_valueOn, Cond.instanceMethod yX1_valueOn, Cond.selects RX1 yX1_valueOn yX1_valueOn, Cond.initialized RX1, Cond.code yX1_valueOn cX1_valueOn 5 (some .int), Cond.fieldLink RX1 21 "Grievancehall$Changes" "count" "I", Cond.fieldLink RX1 9 "Grievancehall$Changes" "things" "[I", Cond.fieldLink RX1 15 "Grievancehall$Changes" "days" "[I", Cond.fieldLink RX1 18 "Grievancehall$Changes" "values" "[I", Cond.methodLink RX3 248 yX3_isUnequal, Cond.instanceMethod yX3_isUnequal, Cond.selects RX3 yX3_isUnequal yX3_isUnequal, Cond.code yX3_isUnequal cX3_isUnequal 4 (some .boolean), Cond.methodLink RX3 190 yX3_countLikes, Cond.instanceMethod yX3_countLikes, Cond.selects RX3 yX3_countLikes yX3_countLikes, Cond.code yX3_countLikes cX3_countLikes 4 (some .int), Cond.fieldLink RX3 86 "Grievancehall" "actCount" "I", Cond.methodLink RX3 164 yX3_isLike, Cond.instanceMethod yX3_isLike, Cond.selects RX3 yX3_isLike yX3_isLike]
def wsX3_find_r3 : List Cond := [Cond.code yX3_isLike cX3_isLike 3 (some .boolean), Cond.fieldLink RX3 144 "Grievancehall$Act" "owner" "I", Cond.methodLink RX3 245 yX3_sumOfLikes, Cond.instanceMethod yX3_sumOfLikes, Cond.selects RX3 yX3_sumOfLikes yX3_sumOfLikes, Cond.code yX3_sumOfLikes cX3_sumOfLikes 4 (some .int)]
def wsX3_find : List Cond := .code yX3_find cX3_find 3 (some .int) :: ((wsX3_find_r1 ++ (wsX3_find_r2 ++ wsX3_find_r3)) ++ wsX30 ++ wsX20 ++ wsX00 ++ wsX10 ++ (vx_atS RX3 56 "java/lang/IllegalStateException" ["java/lang/RuntimeException", "java/lang/Exception"]).filter goodWord ++ (vx_atS RX3 210 "java/lang/IndexOutOfBoundsException" ["java/lang/RuntimeException", "java/lang/Exception"]).filter goodWord)
def wsX3_remedy_r1 : List Cond := [Cond.classLink RX3 52 "java/lang/IllegalStateException", Cond.initialized "java/lang/IllegalStateException", Cond.fieldLink RX3 127 "Grievancehall" "complaintCount" "I", Cond.fieldLink RX3 36 "Grievancehall" "complaints" "[LGrievancehall$Complaint;", Cond.fieldLink RX3 130 "Grievancehall$Complaint" "state" "I", Cond.fieldLink RX3 159 "Grievancehall$Complaint" "finding" "I", Cond.fieldLink RX3 86 "Grievancehall" "actCount" "I", Cond.fieldLink RX3 141 "Grievancehall$Complaint" "actNumber" "I", Cond.fieldLink RX3 29 "Grievancehall" "acts" "[LGrievancehall$Act;", Cond.methodLink RX3 60 yX3_needNumber, Cond.static yX3_needNumber, Cond.initialized RX3, Cond.code yX3_needNumber cX3_needNumber 2 none, Cond.classLink RX3 206 "java/lang/IndexOutOfBoundsException", Cond.initialized "java/lang/IndexOutOfBoundsException", Cond.methodLink RX3 79 yX3_needRange, Cond.static yX3_needRange, Cond.code yX3_needRange cX3_needRange 3 none, Cond.classLink RX3 41 "java/lang/IllegalArgumentException", Cond.initialized "java/lang/IllegalArgumentException", Cond.methodLink RX3 164 yX3_isLike, Cond.instanceMethod yX3_isLike, Cond.selects RX3 yX3_isLike yX3_isLike, Cond.code yX3_isLike cX3_isLike 3 (some .boolean)]
def wsX3_remedy_r2 : List Cond := [Cond.fieldLink RX3 196 "Grievancehall$Act" "kind" "I", Cond.fieldLink RX3 144 "Grievancehall$Act" "owner" "I", Cond.methodLink RX3 156 yX3_faultOf, Cond.instanceMethod yX3_faultOf, Cond.selects RX3 yX3_faultOf yX3_faultOf, Cond.code yX3_faultOf cX3_faultOf 3 (some .int), Cond.methodLink RX3 202 yX3_failsRule, Cond.instanceMethod yX3_failsRule, Cond.selects RX3 yX3_failsRule yX3_failsRule, Cond.code yX3_failsRule cX3_failsRule 2 (some .boolean), Cond.fieldLink RX3 199 "Grievancehall$Act" "measure" "I", Cond.fieldLink RX3 24 "Grievancehall" "limits" "LGrievancehall$Changes;", Cond.fieldLink RX3 242 "Grievancehall$Act" "day" "I", Cond.methodLink RX3 71 yX1_valueOn, Cond.instanceMethod yX1_valueOn, Cond.selects RX1 yX1_valueOn yX1_valueOn, Cond.initialized RX1, Cond.code yX1_valueOn cX1_valueOn 5 (some .int), Cond.fieldLink RX1 21 "Grievancehall$Changes" "count" "I", Cond.fieldLink RX1 9 "Grievancehall$Changes" "things" "[I", Cond.fieldLink RX1 15 "Grievancehall$Changes" "days" "[I", Cond.fieldLink RX1 18 "Grievancehall$Changes" "values" "[I", Cond.methodLink RX3 248 yX3_isUnequal, Cond.instanceMethod yX3_isUnequal]
def wsX3_remedy_r3 : List Cond := [Cond.selects RX3 yX3_isUnequal yX3_isUnequal, Cond.code yX3_isUnequal cX3_isUnequal 4 (some .boolean), Cond.methodLink RX3 190 yX3_countLikes, Cond.instanceMethod yX3_countLikes, Cond.selects RX3 yX3_countLikes yX3_countLikes, Cond.code yX3_countLikes cX3_countLikes 4 (some .int), Cond.methodLink RX3 245 yX3_sumOfLikes, Cond.instanceMethod yX3_sumOfLikes, Cond.selects RX3 yX3_sumOfLikes yX3_sumOfLikes, Cond.code yX3_sumOfLikes cX3_sumOfLikes 4 (some .int), Cond.methodLink RX3 168 yX0_giveRemedy, Cond.instanceMethod yX0_giveRemedy, Cond.selects RX0 yX0_giveRemedy yX0_giveRemedy, Cond.initialized RX0, Cond.code yX0_giveRemedy cX0_giveRemedy 2 none, Cond.fieldLink RX0 31 "Grievancehall$Act" "harm" "I", Cond.fieldLink RX0 15 "Grievancehall$Act" "remedySum" "I"]
def wsX3_remedy : List Cond := .code yX3_remedy cX3_remedy 6 (some .int) :: ((wsX3_remedy_r1 ++ (wsX3_remedy_r2 ++ wsX3_remedy_r3)) ++ wsX30 ++ wsX20 ++ wsX00 ++ wsX10 ++ (vx_atS RX3 56 "java/lang/IllegalStateException" ["java/lang/RuntimeException", "java/lang/Exception"]).filter goodWord ++ (vx_atS RX3 210 "java/lang/IndexOutOfBoundsException" ["java/lang/RuntimeException", "java/lang/Exception"]).filter goodWord ++ (vx_atS RX3 45 "java/lang/IllegalArgumentException" ["java/lang/RuntimeException", "java/lang/Exception"]).filter goodWord)
def wsX3_pass : List Cond := .code yX3_pass cX3_pass 3 (some .int) :: ([.classLink RX3 52 "java/lang/IllegalStateException", .initialized "java/lang/IllegalStateException", .fieldLink RX3 68 "Grievancehall" "today" "I", .fieldLink RX3 127 "Grievancehall" "complaintCount" "I", .fieldLink RX3 36 "Grievancehall" "complaints" "[LGrievancehall$Complaint;", .methodLink RX3 79 yX3_needRange, .static yX3_needRange, .initialized RX3, .code yX3_needRange cX3_needRange 3 none, .classLink RX3 41 "java/lang/IllegalArgumentException", .initialized "java/lang/IllegalArgumentException", .methodLink RX3 173 yX2_letDaysGoBy, .instanceMethod yX2_letDaysGoBy, .selects RX2 yX2_letDaysGoBy yX2_letDaysGoBy, .initialized RX2, .code yX2_letDaysGoBy cX2_letDaysGoBy 2 none, .fieldLink RX2 15 "Grievancehall$Complaint" "state" "I", .fieldLink RX2 21 "Grievancehall$Complaint" "file" "I", .fieldLink RX2 18 "Grievancehall$Complaint" "daysLeft" "I", .methodLink RX2 30 Lib.Math.max.name, .static Lib.Math.max.name, .initialized "java/lang/Math", .code Lib.Math.max.name Lib.Math.max.code 2 (some .int)] ++ wsX30 ++ wsX20 ++ (vx_atS RX3 56 "java/lang/IllegalStateException" ["java/lang/RuntimeException", "java/lang/Exception"]).filter goodWord ++ (vx_atS RX3 45 "java/lang/IllegalArgumentException" ["java/lang/RuntimeException", "java/lang/Exception"]).filter goodWord)
def wsJ6_bitCount_0f7a4 : List Cond := .code yJ6_bitCount_0f7a4 cJ6_bitCount_0f7a4 1 (some .int) :: ([.constant RJ6 265 (1431655765), .constant RJ6 266 (858993459), .constant RJ6 267 (252645135)])
def wsX3_about_r1 : List Cond := [Cond.fieldLink RX3 127 "Grievancehall" "complaintCount" "I", Cond.fieldLink RX3 36 "Grievancehall" "complaints" "[LGrievancehall$Complaint;", Cond.fieldLink RX3 130 "Grievancehall$Complaint" "state" "I", Cond.fieldLink RX3 141 "Grievancehall$Complaint" "actNumber" "I", Cond.fieldLink RX3 176 "Grievancehall$Complaint" "daysLeft" "I", Cond.fieldLink RX3 179 "Grievancehall$Complaint" "people" "I", Cond.fieldLink RX3 133 "Grievancehall$Complaint" "file" "I", Cond.fieldLink RX3 159 "Grievancehall$Complaint" "finding" "I", Cond.methodLink RX3 60 yX3_needNumber, Cond.static yX3_needNumber, Cond.initialized RX3, Cond.code yX3_needNumber cX3_needNumber 2 none, Cond.classLink RX3 206 "java/lang/IndexOutOfBoundsException", Cond.initialized "java/lang/IndexOutOfBoundsException", Cond.methodLink RX3 79 yX3_needRange, Cond.static yX3_needRange, Cond.code yX3_needRange cX3_needRange 3 none, Cond.classLink RX3 41 "java/lang/IllegalArgumentException", Cond.initialized "java/lang/IllegalArgumentException", Cond.methodLink RX3 182 yJ6_bitCount_0f7a4, Cond.static yJ6_bitCount_0f7a4, Cond.initialized RJ6, Cond.code yJ6_bitCount_0f7a4 cJ6_bitCount_0f7a4 1 (some .int), Cond.constant RJ6 265 (1431655765)]
def wsX3_about_r2 : List Cond := [Cond.constant RJ6 266 (858993459), Cond.constant RJ6 267 (252645135)]
def wsX3_about : List Cond := .code yX3_about cX3_about 4 (some .int) :: ((wsX3_about_r1 ++ wsX3_about_r2) ++ wsX30 ++ wsX20 ++ (vx_atS RX3 210 "java/lang/IndexOutOfBoundsException" ["java/lang/RuntimeException", "java/lang/Exception"]).filter goodWord ++ (vx_atS RX3 45 "java/lang/IllegalArgumentException" ["java/lang/RuntimeException", "java/lang/Exception"]).filter goodWord)
def wsX3_climbFrom : List Cond := .code yX3_climbFrom cX3_climbFrom 5 (some .int) :: ([.fieldLink RX3 13 "Grievancehall" "aboveOffice" "[I"] ++ wsX30)
def wsX3_reminder : List Cond := .code yX3_reminder cX3_reminder 3 (some .int) :: ([.fieldLink RX3 127 "Grievancehall" "complaintCount" "I", .fieldLink RX3 36 "Grievancehall" "complaints" "[LGrievancehall$Complaint;", .fieldLink RX3 133 "Grievancehall$Complaint" "file" "I", .fieldLink RX3 29 "Grievancehall" "acts" "[LGrievancehall$Act;", .fieldLink RX3 141 "Grievancehall$Complaint" "actNumber" "I", .fieldLink RX3 144 "Grievancehall$Act" "owner" "I", .fieldLink RX3 68 "Grievancehall" "today" "I", .fieldLink RX3 138 "Grievancehall$Complaint" "askedDay" "I", .methodLink RX3 60 yX3_needNumber, .static yX3_needNumber, .initialized RX3, .code yX3_needNumber cX3_needNumber 2 none, .classLink RX3 206 "java/lang/IndexOutOfBoundsException", .initialized "java/lang/IndexOutOfBoundsException", .methodLink RX3 187 yX3_climbFrom, .instanceMethod yX3_climbFrom, .selects RX3 yX3_climbFrom yX3_climbFrom, .code yX3_climbFrom cX3_climbFrom 5 (some .int), .fieldLink RX3 13 "Grievancehall" "aboveOffice" "[I"] ++ wsX30 ++ wsX20 ++ wsX00 ++ (vx_atS RX3 210 "java/lang/IndexOutOfBoundsException" ["java/lang/RuntimeException", "java/lang/Exception"]).filter goodWord)
def wsX3_fault_r1 : List Cond := [Cond.fieldLink RX3 86 "Grievancehall" "actCount" "I", Cond.methodLink RX3 60 yX3_needNumber, Cond.static yX3_needNumber, Cond.initialized RX3, Cond.code yX3_needNumber cX3_needNumber 2 none, Cond.classLink RX3 206 "java/lang/IndexOutOfBoundsException", Cond.initialized "java/lang/IndexOutOfBoundsException", Cond.methodLink RX3 156 yX3_faultOf, Cond.instanceMethod yX3_faultOf, Cond.selects RX3 yX3_faultOf yX3_faultOf, Cond.code yX3_faultOf cX3_faultOf 3 (some .int), Cond.methodLink RX3 202 yX3_failsRule, Cond.instanceMethod yX3_failsRule, Cond.selects RX3 yX3_failsRule yX3_failsRule, Cond.code yX3_failsRule cX3_failsRule 2 (some .boolean), Cond.fieldLink RX3 29 "Grievancehall" "acts" "[LGrievancehall$Act;", Cond.fieldLink RX3 199 "Grievancehall$Act" "measure" "I", Cond.fieldLink RX3 24 "Grievancehall" "limits" "LGrievancehall$Changes;", Cond.fieldLink RX3 196 "Grievancehall$Act" "kind" "I", Cond.fieldLink RX3 242 "Grievancehall$Act" "day" "I", Cond.methodLink RX3 71 yX1_valueOn, Cond.instanceMethod yX1_valueOn, Cond.selects RX1 yX1_valueOn yX1_valueOn, Cond.initialized RX1]
def wsX3_fault_r2 : List Cond := [Cond.code yX1_valueOn cX1_valueOn 5 (some .int), Cond.fieldLink RX1 21 "Grievancehall$Changes" "count" "I", Cond.fieldLink RX1 9 "Grievancehall$Changes" "things" "[I", Cond.fieldLink RX1 15 "Grievancehall$Changes" "days" "[I", Cond.fieldLink RX1 18 "Grievancehall$Changes" "values" "[I", Cond.methodLink RX3 248 yX3_isUnequal, Cond.instanceMethod yX3_isUnequal, Cond.selects RX3 yX3_isUnequal yX3_isUnequal, Cond.code yX3_isUnequal cX3_isUnequal 4 (some .boolean), Cond.methodLink RX3 190 yX3_countLikes, Cond.instanceMethod yX3_countLikes, Cond.selects RX3 yX3_countLikes yX3_countLikes, Cond.code yX3_countLikes cX3_countLikes 4 (some .int), Cond.methodLink RX3 164 yX3_isLike, Cond.instanceMethod yX3_isLike, Cond.selects RX3 yX3_isLike yX3_isLike, Cond.code yX3_isLike cX3_isLike 3 (some .boolean), Cond.fieldLink RX3 144 "Grievancehall$Act" "owner" "I", Cond.methodLink RX3 245 yX3_sumOfLikes, Cond.instanceMethod yX3_sumOfLikes, Cond.selects RX3 yX3_sumOfLikes yX3_sumOfLikes, Cond.code yX3_sumOfLikes cX3_sumOfLikes 4 (some .int)]
def wsX3_fault : List Cond := .code yX3_fault cX3_fault 2 (some .int) :: ((wsX3_fault_r1 ++ wsX3_fault_r2) ++ wsX30 ++ wsX00 ++ wsX10 ++ (vx_atS RX3 210 "java/lang/IndexOutOfBoundsException" ["java/lang/RuntimeException", "java/lang/Exception"]).filter goodWord)
def wsX3_likes : List Cond := .code yX3_likes cX3_likes 2 (some .int) :: ([.fieldLink RX3 86 "Grievancehall" "actCount" "I", .methodLink RX3 60 yX3_needNumber, .static yX3_needNumber, .initialized RX3, .code yX3_needNumber cX3_needNumber 2 none, .classLink RX3 206 "java/lang/IndexOutOfBoundsException", .initialized "java/lang/IndexOutOfBoundsException", .methodLink RX3 190 yX3_countLikes, .instanceMethod yX3_countLikes, .selects RX3 yX3_countLikes yX3_countLikes, .code yX3_countLikes cX3_countLikes 4 (some .int), .methodLink RX3 164 yX3_isLike, .instanceMethod yX3_isLike, .selects RX3 yX3_isLike yX3_isLike, .code yX3_isLike cX3_isLike 3 (some .boolean), .fieldLink RX3 29 "Grievancehall" "acts" "[LGrievancehall$Act;", .fieldLink RX3 196 "Grievancehall$Act" "kind" "I", .fieldLink RX3 144 "Grievancehall$Act" "owner" "I"] ++ wsX30 ++ wsX00 ++ (vx_atS RX3 210 "java/lang/IndexOutOfBoundsException" ["java/lang/RuntimeException", "java/lang/Exception"]).filter goodWord)
def wsX3_remedied : List Cond := .code yX3_remedied cX3_remedied 2 (some .int) :: ([.fieldLink RX3 86 "Grievancehall" "actCount" "I", .fieldLink RX3 29 "Grievancehall" "acts" "[LGrievancehall$Act;", .fieldLink RX3 193 "Grievancehall$Act" "remedySum" "I", .methodLink RX3 60 yX3_needNumber, .static yX3_needNumber, .initialized RX3, .code yX3_needNumber cX3_needNumber 2 none, .classLink RX3 206 "java/lang/IndexOutOfBoundsException", .initialized "java/lang/IndexOutOfBoundsException"] ++ wsX30 ++ wsX00 ++ (vx_atS RX3 210 "java/lang/IndexOutOfBoundsException" ["java/lang/RuntimeException", "java/lang/Exception"]).filter goodWord)
def wsX3_gains_r1 : List Cond := [Cond.fieldLink RX3 86 "Grievancehall" "actCount" "I", Cond.fieldLink RX3 29 "Grievancehall" "acts" "[LGrievancehall$Act;", Cond.fieldLink RX3 196 "Grievancehall$Act" "kind" "I", Cond.fieldLink RX3 199 "Grievancehall$Act" "measure" "I", Cond.methodLink RX3 60 yX3_needNumber, Cond.static yX3_needNumber, Cond.initialized RX3, Cond.code yX3_needNumber cX3_needNumber 2 none, Cond.classLink RX3 206 "java/lang/IndexOutOfBoundsException", Cond.initialized "java/lang/IndexOutOfBoundsException", Cond.methodLink RX3 79 yX3_needRange, Cond.static yX3_needRange, Cond.code yX3_needRange cX3_needRange 3 none, Cond.classLink RX3 41 "java/lang/IllegalArgumentException", Cond.initialized "java/lang/IllegalArgumentException", Cond.methodLink RX3 202 yX3_failsRule, Cond.instanceMethod yX3_failsRule, Cond.selects RX3 yX3_failsRule yX3_failsRule, Cond.code yX3_failsRule cX3_failsRule 2 (some .boolean), Cond.fieldLink RX3 24 "Grievancehall" "limits" "LGrievancehall$Changes;", Cond.fieldLink RX3 242 "Grievancehall$Act" "day" "I", Cond.methodLink RX3 71 yX1_valueOn, Cond.instanceMethod yX1_valueOn, Cond.selects RX1 yX1_valueOn yX1_valueOn]
def wsX3_gains_r2 : List Cond := [Cond.initialized RX1, Cond.code yX1_valueOn cX1_valueOn 5 (some .int), Cond.fieldLink RX1 21 "Grievancehall$Changes" "count" "I", Cond.fieldLink RX1 9 "Grievancehall$Changes" "things" "[I", Cond.fieldLink RX1 15 "Grievancehall$Changes" "days" "[I", Cond.fieldLink RX1 18 "Grievancehall$Changes" "values" "[I"]
def wsX3_gains : List Cond := .code yX3_gains cX3_gains 7 (some .int) :: ((wsX3_gains_r1 ++ wsX3_gains_r2) ++ wsX30 ++ wsX00 ++ wsX10 ++ (vx_atS RX3 210 "java/lang/IndexOutOfBoundsException" ["java/lang/RuntimeException", "java/lang/Exception"]).filter goodWord ++ (vx_atS RX3 45 "java/lang/IllegalArgumentException" ["java/lang/RuntimeException", "java/lang/Exception"]).filter goodWord)
def wsX4_init_r1 : List Cond := [Cond.methodLink RX4 1 objectInit, Cond.instanceMethod objectInit, Cond.code objectInit ⟨#[0xb1]⟩ 1 none, Cond.arrayClass .int, Cond.fieldLink RX4 7 "GrievancehallModel" "word" "[I", Cond.fieldLink RX4 13 "GrievancehallModel" "above" "[I", Cond.constant RX4 16 (50010), Cond.fieldLink RX4 17 "GrievancehallModel" "actsFor" "[I", Cond.fieldLink RX4 20 "GrievancehallModel" "limits" "[I", Cond.fieldLink RX4 23 "GrievancehallModel" "whoseAct" "[I", Cond.fieldLink RX4 26 "GrievancehallModel" "kind" "[I", Cond.fieldLink RX4 29 "GrievancehallModel" "told" "[I", Cond.fieldLink RX4 32 "GrievancehallModel" "measure" "[I", Cond.fieldLink RX4 35 "GrievancehallModel" "harm" "[I", Cond.arrayClass .boolean, Cond.fieldLink RX4 38 "GrievancehallModel" "isInCourt" "[Z", Cond.fieldLink RX4 42 "GrievancehallModel" "isWaived" "[Z", Cond.fieldLink RX4 45 "GrievancehallModel" "remedy" "[I", Cond.fieldLink RX4 48 "GrievancehallModel" "pleaded" "[I", Cond.fieldLink RX4 51 "GrievancehallModel" "about" "[I", Cond.fieldLink RX4 54 "GrievancehallModel" "state" "[I", Cond.fieldLink RX4 57 "GrievancehallModel" "left" "[I", Cond.fieldLink RX4 60 "GrievancehallModel" "people" "[I", Cond.fieldLink RX4 63 "GrievancehallModel" "asked" "[I"]
def wsX4_init_r2 : List Cond := [Cond.fieldLink RX4 66 "GrievancehallModel" "isAnswered" "[Z", Cond.fieldLink RX4 69 "GrievancehallModel" "isHeard" "[Z", Cond.fieldLink RX4 72 "GrievancehallModel" "finding" "[I"]
def wsX4_init : List Cond := .code yX4_init cX4_init 2 none :: ((wsX4_init_r1 ++ wsX4_init_r2) ++ wsX40)
def wsX4_thrown : List Cond := .code yX4_thrown cX4_thrown 1 (some .int) :: ([.fieldLink RX4 75 "GrievancehallModel" "thrown" "I"] ++ wsX40)
def wsX4_fails : List Cond := .code yX4_fails cX4_fails 2 (some .int) :: ([.fieldLink RX4 75 "GrievancehallModel" "thrown" "I"] ++ wsX40)
def wsX4_asks : List Cond := .code yX4_asks cX4_asks 2 (some .boolean) :: ([.fieldLink RX4 75 "GrievancehallModel" "thrown" "I"] ++ wsX40)
def wsX4_in : List Cond := .code yX4_in cX4_in 3 (some .boolean) :: ([])
def wsX4_isOffice : List Cond := .code yX4_isOffice cX4_isOffice 2 (some .boolean) :: ([.fieldLink RX4 79 "GrievancehallModel" "offices" "I", .methodLink RX4 82 yX4_in, .static yX4_in, .initialized RX4, .code yX4_in cX4_in 3 (some .boolean)] ++ wsX40)
def wsX4_isAct : List Cond := .code yX4_isAct cX4_isAct 2 (some .boolean) :: ([.fieldLink RX4 86 "GrievancehallModel" "acts" "I", .methodLink RX4 82 yX4_in, .static yX4_in, .initialized RX4, .code yX4_in cX4_in 3 (some .boolean)] ++ wsX40)
def wsX4_isKind : List Cond := .code yX4_isKind cX4_isKind 1 (some .boolean) :: ([.methodLink RX4 82 yX4_in, .static yX4_in, .initialized RX4, .code yX4_in cX4_in 3 (some .boolean)])
def wsX4_isComplaint : List Cond := .code yX4_isComplaint cX4_isComplaint 2 (some .boolean) :: ([.fieldLink RX4 89 "GrievancehallModel" "complaints" "I", .methodLink RX4 82 yX4_in, .static yX4_in, .initialized RX4, .code yX4_in cX4_in 3 (some .boolean)] ++ wsX40)
def wsX4_letter : List Cond := .code yX4_letter cX4_letter 2 (some .int) :: ([.fieldLink RX4 96 "GrievancehallModel" "letters" "I", .fieldLink RX4 7 "GrievancehallModel" "word" "[I", .methodLink RX4 82 yX4_in, .static yX4_in, .initialized RX4, .code yX4_in cX4_in 3 (some .boolean), .methodLink RX4 92 yX4_asks, .instanceMethod yX4_asks, .selects RX4 yX4_asks yX4_asks, .code yX4_asks cX4_asks 2 (some .boolean), .fieldLink RX4 75 "GrievancehallModel" "thrown" "I", .methodLink RX4 99 yX4_fails, .instanceMethod yX4_fails, .selects RX4 yX4_fails yX4_fails, .code yX4_fails cX4_fails 2 (some .int)] ++ wsX40)
def wsX4_isTyped : List Cond := .code yX4_isTyped cX4_isTyped 2 (some .boolean) :: ([.fieldLink RX4 96 "GrievancehallModel" "letters" "I", .fieldLink RX4 7 "GrievancehallModel" "word" "[I"] ++ wsX40)
def wsX4_office : List Cond := .code yX4_office cX4_office 2 (some .int) :: ([.fieldLink RX4 79 "GrievancehallModel" "offices" "I", .fieldLink RX4 13 "GrievancehallModel" "above" "[I", .methodLink RX4 103 yX4_isOffice, .instanceMethod yX4_isOffice, .selects RX4 yX4_isOffice yX4_isOffice, .initialized RX4, .code yX4_isOffice cX4_isOffice 2 (some .boolean), .methodLink RX4 82 yX4_in, .static yX4_in, .code yX4_in cX4_in 3 (some .boolean), .methodLink RX4 92 yX4_asks, .instanceMethod yX4_asks, .selects RX4 yX4_asks yX4_asks, .code yX4_asks cX4_asks 2 (some .boolean), .fieldLink RX4 75 "GrievancehallModel" "thrown" "I", .methodLink RX4 99 yX4_fails, .instanceMethod yX4_fails, .selects RX4 yX4_fails yX4_fails, .code yX4_fails cX4_fails 2 (some .int)] ++ wsX40)
def wsX4_delegate : List Cond := .code yX4_delegate cX4_delegate 5 (some .int) :: ([.fieldLink RX4 17 "GrievancehallModel" "actsFor" "[I", .fieldLink RX4 107 "GrievancehallModel" "day" "I", .methodLink RX4 103 yX4_isOffice, .instanceMethod yX4_isOffice, .selects RX4 yX4_isOffice yX4_isOffice, .initialized RX4, .code yX4_isOffice cX4_isOffice 2 (some .boolean), .fieldLink RX4 79 "GrievancehallModel" "offices" "I", .methodLink RX4 82 yX4_in, .static yX4_in, .code yX4_in cX4_in 3 (some .boolean), .methodLink RX4 92 yX4_asks, .instanceMethod yX4_asks, .selects RX4 yX4_asks yX4_asks, .code yX4_asks cX4_asks 2 (some .boolean), .fieldLink RX4 75 "GrievancehallModel" "thrown" "I", .methodLink RX4 99 yX4_fails, .instanceMethod yX4_fails, .selects RX4 yX4_fails yX4_fails, .code yX4_fails cX4_fails 2 (some .int)] ++ wsX40)
def wsX4_whoseOn : List Cond := .code yX4_whoseOn cX4_whoseOn 5 (some .int) :: ([.fieldLink RX4 17 "GrievancehallModel" "actsFor" "[I"] ++ wsX40)
def wsX4_whose : List Cond := .code yX4_whose cX4_whose 3 (some .int) :: ([.fieldLink RX4 107 "GrievancehallModel" "day" "I", .methodLink RX4 103 yX4_isOffice, .instanceMethod yX4_isOffice, .selects RX4 yX4_isOffice yX4_isOffice, .initialized RX4, .code yX4_isOffice cX4_isOffice 2 (some .boolean), .fieldLink RX4 79 "GrievancehallModel" "offices" "I", .methodLink RX4 82 yX4_in, .static yX4_in, .code yX4_in cX4_in 3 (some .boolean), .methodLink RX4 92 yX4_asks, .instanceMethod yX4_asks, .selects RX4 yX4_asks yX4_asks, .code yX4_asks cX4_asks 2 (some .boolean), .fieldLink RX4 75 "GrievancehallModel" "thrown" "I", .methodLink RX4 110 yX4_whoseOn, .instanceMethod yX4_whoseOn, .selects RX4 yX4_whoseOn yX4_whoseOn, .code yX4_whoseOn cX4_whoseOn 5 (some .int), .fieldLink RX4 17 "GrievancehallModel" "actsFor" "[I", .methodLink RX4 99 yX4_fails, .instanceMethod yX4_fails, .selects RX4 yX4_fails yX4_fails, .code yX4_fails cX4_fails 2 (some .int)] ++ wsX40)
def wsX4_limit : List Cond := .code yX4_limit cX4_limit 5 (some .int) :: ([.fieldLink RX4 20 "GrievancehallModel" "limits" "[I", .fieldLink RX4 107 "GrievancehallModel" "day" "I", .methodLink RX4 114 yX4_isKind, .static yX4_isKind, .initialized RX4, .code yX4_isKind cX4_isKind 1 (some .boolean), .methodLink RX4 82 yX4_in, .static yX4_in, .code yX4_in cX4_in 3 (some .boolean), .methodLink RX4 92 yX4_asks, .instanceMethod yX4_asks, .selects RX4 yX4_asks yX4_asks, .code yX4_asks cX4_asks 2 (some .boolean), .fieldLink RX4 75 "GrievancehallModel" "thrown" "I", .methodLink RX4 99 yX4_fails, .instanceMethod yX4_fails, .selects RX4 yX4_fails yX4_fails, .code yX4_fails cX4_fails 2 (some .int)] ++ wsX40)
def wsX4_act_r1 : List Cond := [Cond.fieldLink RX4 86 "GrievancehallModel" "acts" "I", Cond.fieldLink RX4 96 "GrievancehallModel" "letters" "I", Cond.fieldLink RX4 23 "GrievancehallModel" "whoseAct" "[I", Cond.fieldLink RX4 107 "GrievancehallModel" "day" "I", Cond.fieldLink RX4 26 "GrievancehallModel" "kind" "[I", Cond.fieldLink RX4 29 "GrievancehallModel" "told" "[I", Cond.fieldLink RX4 32 "GrievancehallModel" "measure" "[I", Cond.fieldLink RX4 35 "GrievancehallModel" "harm" "[I", Cond.methodLink RX4 103 yX4_isOffice, Cond.instanceMethod yX4_isOffice, Cond.selects RX4 yX4_isOffice yX4_isOffice, Cond.initialized RX4, Cond.code yX4_isOffice cX4_isOffice 2 (some .boolean), Cond.fieldLink RX4 79 "GrievancehallModel" "offices" "I", Cond.methodLink RX4 82 yX4_in, Cond.static yX4_in, Cond.code yX4_in cX4_in 3 (some .boolean), Cond.methodLink RX4 92 yX4_asks, Cond.instanceMethod yX4_asks, Cond.selects RX4 yX4_asks yX4_asks, Cond.code yX4_asks cX4_asks 2 (some .boolean), Cond.fieldLink RX4 75 "GrievancehallModel" "thrown" "I", Cond.methodLink RX4 99 yX4_fails, Cond.instanceMethod yX4_fails]
def wsX4_act_r2 : List Cond := [Cond.selects RX4 yX4_fails yX4_fails, Cond.code yX4_fails cX4_fails 2 (some .int), Cond.methodLink RX4 117 yX4_isTyped, Cond.instanceMethod yX4_isTyped, Cond.selects RX4 yX4_isTyped yX4_isTyped, Cond.code yX4_isTyped cX4_isTyped 2 (some .boolean), Cond.fieldLink RX4 7 "GrievancehallModel" "word" "[I", Cond.methodLink RX4 110 yX4_whoseOn, Cond.instanceMethod yX4_whoseOn, Cond.selects RX4 yX4_whoseOn yX4_whoseOn, Cond.code yX4_whoseOn cX4_whoseOn 5 (some .int), Cond.fieldLink RX4 17 "GrievancehallModel" "actsFor" "[I"]
def wsX4_act : List Cond := .code yX4_act cX4_act 6 (some .int) :: ((wsX4_act_r1 ++ wsX4_act_r2) ++ wsX40)
def wsX4_court : List Cond := .code yX4_court cX4_court 4 (some .boolean) :: ([.fieldLink RX4 38 "GrievancehallModel" "isInCourt" "[Z", .methodLink RX4 120 yX4_isAct, .instanceMethod yX4_isAct, .selects RX4 yX4_isAct yX4_isAct, .initialized RX4, .code yX4_isAct cX4_isAct 2 (some .boolean), .fieldLink RX4 86 "GrievancehallModel" "acts" "I", .methodLink RX4 82 yX4_in, .static yX4_in, .code yX4_in cX4_in 3 (some .boolean), .methodLink RX4 92 yX4_asks, .instanceMethod yX4_asks, .selects RX4 yX4_asks yX4_asks, .code yX4_asks cX4_asks 2 (some .boolean), .fieldLink RX4 75 "GrievancehallModel" "thrown" "I"] ++ wsX40)
def wsX4_waive : List Cond := .code yX4_waive cX4_waive 4 (some .boolean) :: ([.fieldLink RX4 42 "GrievancehallModel" "isWaived" "[Z", .methodLink RX4 120 yX4_isAct, .instanceMethod yX4_isAct, .selects RX4 yX4_isAct yX4_isAct, .initialized RX4, .code yX4_isAct cX4_isAct 2 (some .boolean), .fieldLink RX4 86 "GrievancehallModel" "acts" "I", .methodLink RX4 82 yX4_in, .static yX4_in, .code yX4_in cX4_in 3 (some .boolean), .methodLink RX4 92 yX4_asks, .instanceMethod yX4_asks, .selects RX4 yX4_asks yX4_asks, .code yX4_asks cX4_asks 2 (some .boolean), .fieldLink RX4 75 "GrievancehallModel" "thrown" "I"] ++ wsX40)
def wsX4_isThere : List Cond := .code yX4_isThere cX4_isThere 3 (some .boolean) :: ([.methodLink RX4 82 yX4_in, .static yX4_in, .initialized RX4, .code yX4_in cX4_in 3 (some .boolean), .methodLink RX4 120 yX4_isAct, .instanceMethod yX4_isAct, .selects RX4 yX4_isAct yX4_isAct, .code yX4_isAct cX4_isAct 2 (some .boolean), .fieldLink RX4 86 "GrievancehallModel" "acts" "I"] ++ wsX40)
def wsX4_plea : List Cond := .code yX4_plea cX4_plea 3 none :: ([.fieldLink RX4 48 "GrievancehallModel" "pleaded" "[I", .fieldLink RX4 75 "GrievancehallModel" "thrown" "I", .fieldLink RX4 107 "GrievancehallModel" "day" "I", .methodLink RX4 123 yX4_isThere, .instanceMethod yX4_isThere, .selects RX4 yX4_isThere yX4_isThere, .initialized RX4, .code yX4_isThere cX4_isThere 3 (some .boolean), .methodLink RX4 82 yX4_in, .static yX4_in, .code yX4_in cX4_in 3 (some .boolean), .methodLink RX4 120 yX4_isAct, .instanceMethod yX4_isAct, .selects RX4 yX4_isAct yX4_isAct, .code yX4_isAct cX4_isAct 2 (some .boolean), .fieldLink RX4 86 "GrievancehallModel" "acts" "I", .methodLink RX4 92 yX4_asks, .instanceMethod yX4_asks, .selects RX4 yX4_asks yX4_asks, .code yX4_asks cX4_asks 2 (some .boolean)] ++ wsX40)
def wsX4_barOf : List Cond := .code yX4_barOf cX4_barOf 4 (some .int) :: ([.fieldLink RX4 48 "GrievancehallModel" "pleaded" "[I", .fieldLink RX4 107 "GrievancehallModel" "day" "I", .fieldLink RX4 38 "GrievancehallModel" "isInCourt" "[Z", .fieldLink RX4 29 "GrievancehallModel" "told" "[I", .fieldLink RX4 42 "GrievancehallModel" "isWaived" "[Z"] ++ wsX40)
def wsX4_bar_r1 : List Cond := [Cond.methodLink RX4 123 yX4_isThere, Cond.instanceMethod yX4_isThere, Cond.selects RX4 yX4_isThere yX4_isThere, Cond.initialized RX4, Cond.code yX4_isThere cX4_isThere 3 (some .boolean), Cond.methodLink RX4 82 yX4_in, Cond.static yX4_in, Cond.code yX4_in cX4_in 3 (some .boolean), Cond.methodLink RX4 120 yX4_isAct, Cond.instanceMethod yX4_isAct, Cond.selects RX4 yX4_isAct yX4_isAct, Cond.code yX4_isAct cX4_isAct 2 (some .boolean), Cond.fieldLink RX4 86 "GrievancehallModel" "acts" "I", Cond.methodLink RX4 92 yX4_asks, Cond.instanceMethod yX4_asks, Cond.selects RX4 yX4_asks yX4_asks, Cond.code yX4_asks cX4_asks 2 (some .boolean), Cond.fieldLink RX4 75 "GrievancehallModel" "thrown" "I", Cond.methodLink RX4 127 yX4_barOf, Cond.instanceMethod yX4_barOf, Cond.selects RX4 yX4_barOf yX4_barOf, Cond.code yX4_barOf cX4_barOf 4 (some .int), Cond.fieldLink RX4 48 "GrievancehallModel" "pleaded" "[I", Cond.fieldLink RX4 107 "GrievancehallModel" "day" "I"]
def wsX4_bar_r2 : List Cond := [Cond.fieldLink RX4 38 "GrievancehallModel" "isInCourt" "[Z", Cond.fieldLink RX4 29 "GrievancehallModel" "told" "[I", Cond.fieldLink RX4 42 "GrievancehallModel" "isWaived" "[Z"]
def wsX4_bar : List Cond := .code yX4_bar cX4_bar 3 (some .int) :: ((wsX4_bar_r1 ++ wsX4_bar_r2) ++ wsX40)
def wsX4_complaintOf : List Cond := .code yX4_complaintOf cX4_complaintOf 4 (some .int) :: ([.fieldLink RX4 89 "GrievancehallModel" "complaints" "I", .fieldLink RX4 51 "GrievancehallModel" "about" "[I", .fieldLink RX4 54 "GrievancehallModel" "state" "[I"] ++ wsX40)
def wsX4_complain_r1 : List Cond := [Cond.fieldLink RX4 89 "GrievancehallModel" "complaints" "I", Cond.fieldLink RX4 51 "GrievancehallModel" "about" "[I", Cond.fieldLink RX4 54 "GrievancehallModel" "state" "[I", Cond.fieldLink RX4 57 "GrievancehallModel" "left" "[I", Cond.fieldLink RX4 63 "GrievancehallModel" "asked" "[I", Cond.fieldLink RX4 72 "GrievancehallModel" "finding" "[I", Cond.fieldLink RX4 60 "GrievancehallModel" "people" "[I", Cond.methodLink RX4 123 yX4_isThere, Cond.instanceMethod yX4_isThere, Cond.selects RX4 yX4_isThere yX4_isThere, Cond.initialized RX4, Cond.code yX4_isThere cX4_isThere 3 (some .boolean), Cond.methodLink RX4 82 yX4_in, Cond.static yX4_in, Cond.code yX4_in cX4_in 3 (some .boolean), Cond.methodLink RX4 120 yX4_isAct, Cond.instanceMethod yX4_isAct, Cond.selects RX4 yX4_isAct yX4_isAct, Cond.code yX4_isAct cX4_isAct 2 (some .boolean), Cond.fieldLink RX4 86 "GrievancehallModel" "acts" "I", Cond.methodLink RX4 92 yX4_asks, Cond.instanceMethod yX4_asks, Cond.selects RX4 yX4_asks yX4_asks, Cond.code yX4_asks cX4_asks 2 (some .boolean)]
def wsX4_complain_r2 : List Cond := [Cond.fieldLink RX4 75 "GrievancehallModel" "thrown" "I", Cond.methodLink RX4 130 yX4_complaintOf, Cond.instanceMethod yX4_complaintOf, Cond.selects RX4 yX4_complaintOf yX4_complaintOf, Cond.code yX4_complaintOf cX4_complaintOf 4 (some .int), Cond.methodLink RX4 127 yX4_barOf, Cond.instanceMethod yX4_barOf, Cond.selects RX4 yX4_barOf yX4_barOf, Cond.code yX4_barOf cX4_barOf 4 (some .int), Cond.fieldLink RX4 48 "GrievancehallModel" "pleaded" "[I", Cond.fieldLink RX4 107 "GrievancehallModel" "day" "I", Cond.fieldLink RX4 38 "GrievancehallModel" "isInCourt" "[Z", Cond.fieldLink RX4 29 "GrievancehallModel" "told" "[I", Cond.fieldLink RX4 42 "GrievancehallModel" "isWaived" "[Z", Cond.methodLink RX4 99 yX4_fails, Cond.instanceMethod yX4_fails, Cond.selects RX4 yX4_fails yX4_fails, Cond.code yX4_fails cX4_fails 2 (some .int)]
def wsX4_complain : List Cond := .code yX4_complain cX4_complain 4 (some .int) :: ((wsX4_complain_r1 ++ wsX4_complain_r2) ++ wsX40)
def wsX4_isOwed : List Cond := .code yX4_isOwed cX4_isOwed 2 (some .boolean) :: ([.fieldLink RX4 63 "GrievancehallModel" "asked" "[I", .fieldLink RX4 66 "GrievancehallModel" "isAnswered" "[Z"] ++ wsX40)
def wsX4_ask : List Cond := .code yX4_ask cX4_ask 2 (some .int) :: ([.fieldLink RX4 54 "GrievancehallModel" "state" "[I", .fieldLink RX4 63 "GrievancehallModel" "asked" "[I", .fieldLink RX4 107 "GrievancehallModel" "day" "I", .fieldLink RX4 23 "GrievancehallModel" "whoseAct" "[I", .fieldLink RX4 51 "GrievancehallModel" "about" "[I", .methodLink RX4 133 yX4_isComplaint, .instanceMethod yX4_isComplaint, .selects RX4 yX4_isComplaint yX4_isComplaint, .initialized RX4, .code yX4_isComplaint cX4_isComplaint 2 (some .boolean), .fieldLink RX4 89 "GrievancehallModel" "complaints" "I", .methodLink RX4 82 yX4_in, .static yX4_in, .code yX4_in cX4_in 3 (some .boolean), .methodLink RX4 92 yX4_asks, .instanceMethod yX4_asks, .selects RX4 yX4_asks yX4_asks, .code yX4_asks cX4_asks 2 (some .boolean), .fieldLink RX4 75 "GrievancehallModel" "thrown" "I", .methodLink RX4 99 yX4_fails, .instanceMethod yX4_fails, .selects RX4 yX4_fails yX4_fails, .code yX4_fails cX4_fails 2 (some .int)] ++ wsX40)
def wsX4_answer_r1 : List Cond := [Cond.fieldLink RX4 66 "GrievancehallModel" "isAnswered" "[Z", Cond.fieldLink RX4 107 "GrievancehallModel" "day" "I", Cond.fieldLink RX4 63 "GrievancehallModel" "asked" "[I", Cond.methodLink RX4 133 yX4_isComplaint, Cond.instanceMethod yX4_isComplaint, Cond.selects RX4 yX4_isComplaint yX4_isComplaint, Cond.initialized RX4, Cond.code yX4_isComplaint cX4_isComplaint 2 (some .boolean), Cond.fieldLink RX4 89 "GrievancehallModel" "complaints" "I", Cond.methodLink RX4 82 yX4_in, Cond.static yX4_in, Cond.code yX4_in cX4_in 3 (some .boolean), Cond.methodLink RX4 92 yX4_asks, Cond.instanceMethod yX4_asks, Cond.selects RX4 yX4_asks yX4_asks, Cond.code yX4_asks cX4_asks 2 (some .boolean), Cond.fieldLink RX4 75 "GrievancehallModel" "thrown" "I", Cond.methodLink RX4 136 yX4_isOwed, Cond.instanceMethod yX4_isOwed, Cond.selects RX4 yX4_isOwed yX4_isOwed, Cond.code yX4_isOwed cX4_isOwed 2 (some .boolean), Cond.methodLink RX4 99 yX4_fails, Cond.instanceMethod yX4_fails, Cond.selects RX4 yX4_fails yX4_fails]
def wsX4_answer_r2 : List Cond := [Cond.code yX4_fails cX4_fails 2 (some .int)]
def wsX4_answer : List Cond := .code yX4_answer cX4_answer 2 (some .int) :: ((wsX4_answer_r1 ++ wsX4_answer_r2) ++ wsX40)
def wsX4_hear : List Cond := .code yX4_hear cX4_hear 2 none :: ([.fieldLink RX4 54 "GrievancehallModel" "state" "[I", .fieldLink RX4 66 "GrievancehallModel" "isAnswered" "[Z", .fieldLink RX4 69 "GrievancehallModel" "isHeard" "[Z", .fieldLink RX4 75 "GrievancehallModel" "thrown" "I", .methodLink RX4 133 yX4_isComplaint, .instanceMethod yX4_isComplaint, .selects RX4 yX4_isComplaint yX4_isComplaint, .initialized RX4, .code yX4_isComplaint cX4_isComplaint 2 (some .boolean), .fieldLink RX4 89 "GrievancehallModel" "complaints" "I", .methodLink RX4 82 yX4_in, .static yX4_in, .code yX4_in cX4_in 3 (some .boolean), .methodLink RX4 92 yX4_asks, .instanceMethod yX4_asks, .selects RX4 yX4_asks yX4_asks, .code yX4_asks cX4_asks 2 (some .boolean)] ++ wsX40)
def wsX4_areLike : List Cond := .code yX4_areLike cX4_areLike 3 (some .boolean) :: ([.fieldLink RX4 26 "GrievancehallModel" "kind" "[I", .fieldLink RX4 23 "GrievancehallModel" "whoseAct" "[I"] ++ wsX40)
def wsX4_likesOf : List Cond := .code yX4_likesOf cX4_likesOf 4 (some .int) :: ([.fieldLink RX4 86 "GrievancehallModel" "acts" "I", .methodLink RX4 139 yX4_areLike, .instanceMethod yX4_areLike, .selects RX4 yX4_areLike yX4_areLike, .initialized RX4, .code yX4_areLike cX4_areLike 3 (some .boolean), .fieldLink RX4 26 "GrievancehallModel" "kind" "[I", .fieldLink RX4 23 "GrievancehallModel" "whoseAct" "[I"] ++ wsX40)
def wsX4_doesFail : List Cond := .code yX4_doesFail cX4_doesFail 2 (some .boolean) :: ([.fieldLink RX4 32 "GrievancehallModel" "measure" "[I", .fieldLink RX4 20 "GrievancehallModel" "limits" "[I", .fieldLink RX4 26 "GrievancehallModel" "kind" "[I", .fieldLink RX4 29 "GrievancehallModel" "told" "[I"] ++ wsX40)
def wsX4_isUnequal : List Cond := .code yX4_isUnequal cX4_isUnequal 5 (some .boolean) :: ([.fieldLink RX4 86 "GrievancehallModel" "acts" "I", .fieldLink RX4 32 "GrievancehallModel" "measure" "[I", .methodLink RX4 142 yX4_likesOf, .instanceMethod yX4_likesOf, .selects RX4 yX4_likesOf yX4_likesOf, .initialized RX4, .code yX4_likesOf cX4_likesOf 4 (some .int), .methodLink RX4 139 yX4_areLike, .instanceMethod yX4_areLike, .selects RX4 yX4_areLike yX4_areLike, .code yX4_areLike cX4_areLike 3 (some .boolean), .fieldLink RX4 26 "GrievancehallModel" "kind" "[I", .fieldLink RX4 23 "GrievancehallModel" "whoseAct" "[I"] ++ wsX40)
def wsX4_faultOf : List Cond := .code yX4_faultOf cX4_faultOf 2 (some .int) :: ([.methodLink RX4 145 yX4_doesFail, .instanceMethod yX4_doesFail, .selects RX4 yX4_doesFail yX4_doesFail, .initialized RX4, .code yX4_doesFail cX4_doesFail 2 (some .boolean), .fieldLink RX4 32 "GrievancehallModel" "measure" "[I", .fieldLink RX4 20 "GrievancehallModel" "limits" "[I", .fieldLink RX4 26 "GrievancehallModel" "kind" "[I", .fieldLink RX4 29 "GrievancehallModel" "told" "[I", .methodLink RX4 148 yX4_isUnequal, .instanceMethod yX4_isUnequal, .selects RX4 yX4_isUnequal yX4_isUnequal, .code yX4_isUnequal cX4_isUnequal 5 (some .boolean), .fieldLink RX4 86 "GrievancehallModel" "acts" "I", .methodLink RX4 142 yX4_likesOf, .instanceMethod yX4_likesOf, .selects RX4 yX4_likesOf yX4_likesOf, .code yX4_likesOf cX4_likesOf 4 (some .int), .methodLink RX4 139 yX4_areLike, .instanceMethod yX4_areLike, .selects RX4 yX4_areLike yX4_areLike, .code yX4_areLike cX4_areLike 3 (some .boolean), .fieldLink RX4 23 "GrievancehallModel" "whoseAct" "[I"] ++ wsX40)
def wsX4_find_r1 : List Cond := [Cond.fieldLink RX4 54 "GrievancehallModel" "state" "[I", Cond.fieldLink RX4 69 "GrievancehallModel" "isHeard" "[Z", Cond.fieldLink RX4 72 "GrievancehallModel" "finding" "[I", Cond.fieldLink RX4 51 "GrievancehallModel" "about" "[I", Cond.methodLink RX4 133 yX4_isComplaint, Cond.instanceMethod yX4_isComplaint, Cond.selects RX4 yX4_isComplaint yX4_isComplaint, Cond.initialized RX4, Cond.code yX4_isComplaint cX4_isComplaint 2 (some .boolean), Cond.fieldLink RX4 89 "GrievancehallModel" "complaints" "I", Cond.methodLink RX4 82 yX4_in, Cond.static yX4_in, Cond.code yX4_in cX4_in 3 (some .boolean), Cond.methodLink RX4 92 yX4_asks, Cond.instanceMethod yX4_asks, Cond.selects RX4 yX4_asks yX4_asks, Cond.code yX4_asks cX4_asks 2 (some .boolean), Cond.fieldLink RX4 75 "GrievancehallModel" "thrown" "I", Cond.methodLink RX4 99 yX4_fails, Cond.instanceMethod yX4_fails, Cond.selects RX4 yX4_fails yX4_fails, Cond.code yX4_fails cX4_fails 2 (some .int), Cond.methodLink RX4 151 yX4_faultOf, Cond.instanceMethod yX4_faultOf]
def wsX4_find_r2 : List Cond := [Cond.selects RX4 yX4_faultOf yX4_faultOf, Cond.code yX4_faultOf cX4_faultOf 2 (some .int), Cond.methodLink RX4 145 yX4_doesFail, Cond.instanceMethod yX4_doesFail, Cond.selects RX4 yX4_doesFail yX4_doesFail, Cond.code yX4_doesFail cX4_doesFail 2 (some .boolean), Cond.fieldLink RX4 32 "GrievancehallModel" "measure" "[I", Cond.fieldLink RX4 20 "GrievancehallModel" "limits" "[I", Cond.fieldLink RX4 26 "GrievancehallModel" "kind" "[I", Cond.fieldLink RX4 29 "GrievancehallModel" "told" "[I", Cond.methodLink RX4 148 yX4_isUnequal, Cond.instanceMethod yX4_isUnequal, Cond.selects RX4 yX4_isUnequal yX4_isUnequal, Cond.code yX4_isUnequal cX4_isUnequal 5 (some .boolean), Cond.fieldLink RX4 86 "GrievancehallModel" "acts" "I", Cond.methodLink RX4 142 yX4_likesOf, Cond.instanceMethod yX4_likesOf, Cond.selects RX4 yX4_likesOf yX4_likesOf, Cond.code yX4_likesOf cX4_likesOf 4 (some .int), Cond.methodLink RX4 139 yX4_areLike, Cond.instanceMethod yX4_areLike, Cond.selects RX4 yX4_areLike yX4_areLike, Cond.code yX4_areLike cX4_areLike 3 (some .boolean), Cond.fieldLink RX4 23 "GrievancehallModel" "whoseAct" "[I"]
def wsX4_find : List Cond := .code yX4_find cX4_find 2 (some .int) :: ((wsX4_find_r1 ++ wsX4_find_r2) ++ wsX40)
def wsX4_remedy_r1 : List Cond := [Cond.fieldLink RX4 54 "GrievancehallModel" "state" "[I", Cond.fieldLink RX4 72 "GrievancehallModel" "finding" "[I", Cond.fieldLink RX4 51 "GrievancehallModel" "about" "[I", Cond.fieldLink RX4 86 "GrievancehallModel" "acts" "I", Cond.fieldLink RX4 45 "GrievancehallModel" "remedy" "[I", Cond.fieldLink RX4 35 "GrievancehallModel" "harm" "[I", Cond.methodLink RX4 133 yX4_isComplaint, Cond.instanceMethod yX4_isComplaint, Cond.selects RX4 yX4_isComplaint yX4_isComplaint, Cond.initialized RX4, Cond.code yX4_isComplaint cX4_isComplaint 2 (some .boolean), Cond.fieldLink RX4 89 "GrievancehallModel" "complaints" "I", Cond.methodLink RX4 82 yX4_in, Cond.static yX4_in, Cond.code yX4_in cX4_in 3 (some .boolean), Cond.methodLink RX4 92 yX4_asks, Cond.instanceMethod yX4_asks, Cond.selects RX4 yX4_asks yX4_asks, Cond.code yX4_asks cX4_asks 2 (some .boolean), Cond.fieldLink RX4 75 "GrievancehallModel" "thrown" "I", Cond.methodLink RX4 99 yX4_fails, Cond.instanceMethod yX4_fails, Cond.selects RX4 yX4_fails yX4_fails, Cond.code yX4_fails cX4_fails 2 (some .int)]
def wsX4_remedy_r2 : List Cond := [Cond.methodLink RX4 139 yX4_areLike, Cond.instanceMethod yX4_areLike, Cond.selects RX4 yX4_areLike yX4_areLike, Cond.code yX4_areLike cX4_areLike 3 (some .boolean), Cond.fieldLink RX4 26 "GrievancehallModel" "kind" "[I", Cond.fieldLink RX4 23 "GrievancehallModel" "whoseAct" "[I", Cond.methodLink RX4 151 yX4_faultOf, Cond.instanceMethod yX4_faultOf, Cond.selects RX4 yX4_faultOf yX4_faultOf, Cond.code yX4_faultOf cX4_faultOf 2 (some .int), Cond.methodLink RX4 145 yX4_doesFail, Cond.instanceMethod yX4_doesFail, Cond.selects RX4 yX4_doesFail yX4_doesFail, Cond.code yX4_doesFail cX4_doesFail 2 (some .boolean), Cond.fieldLink RX4 32 "GrievancehallModel" "measure" "[I", Cond.fieldLink RX4 20 "GrievancehallModel" "limits" "[I", Cond.fieldLink RX4 29 "GrievancehallModel" "told" "[I", Cond.methodLink RX4 148 yX4_isUnequal, Cond.instanceMethod yX4_isUnequal, Cond.selects RX4 yX4_isUnequal yX4_isUnequal, Cond.code yX4_isUnequal cX4_isUnequal 5 (some .boolean), Cond.methodLink RX4 142 yX4_likesOf, Cond.instanceMethod yX4_likesOf, Cond.selects RX4 yX4_likesOf yX4_likesOf]
def wsX4_remedy_r3 : List Cond := [Cond.code yX4_likesOf cX4_likesOf 4 (some .int)]
def wsX4_remedy : List Cond := .code yX4_remedy cX4_remedy 6 (some .int) :: ((wsX4_remedy_r1 ++ (wsX4_remedy_r2 ++ wsX4_remedy_r3)) ++ wsX40)
def wsX4_pass : List Cond := .code yX4_pass cX4_pass 4 (some .int) :: ([.fieldLink RX4 107 "GrievancehallModel" "day" "I", .fieldLink RX4 89 "GrievancehallModel" "complaints" "I", .fieldLink RX4 54 "GrievancehallModel" "state" "[I", .fieldLink RX4 57 "GrievancehallModel" "left" "[I", .methodLink RX4 82 yX4_in, .static yX4_in, .initialized RX4, .code yX4_in cX4_in 3 (some .boolean), .methodLink RX4 92 yX4_asks, .instanceMethod yX4_asks, .selects RX4 yX4_asks yX4_asks, .code yX4_asks cX4_asks 2 (some .boolean), .fieldLink RX4 75 "GrievancehallModel" "thrown" "I", .methodLink RX4 99 yX4_fails, .instanceMethod yX4_fails, .selects RX4 yX4_fails yX4_fails, .code yX4_fails cX4_fails 2 (some .int), .methodLink RX4 136 yX4_isOwed, .instanceMethod yX4_isOwed, .selects RX4 yX4_isOwed yX4_isOwed, .code yX4_isOwed cX4_isOwed 2 (some .boolean), .fieldLink RX4 63 "GrievancehallModel" "asked" "[I", .fieldLink RX4 66 "GrievancehallModel" "isAnswered" "[Z"] ++ wsX40)
def wsX4_ones : List Cond := .code yX4_ones cX4_ones 3 (some .int) :: ([])
def wsX4_about_r1 : List Cond := [Cond.fieldLink RX4 54 "GrievancehallModel" "state" "[I", Cond.fieldLink RX4 51 "GrievancehallModel" "about" "[I", Cond.fieldLink RX4 57 "GrievancehallModel" "left" "[I", Cond.fieldLink RX4 60 "GrievancehallModel" "people" "[I", Cond.fieldLink RX4 72 "GrievancehallModel" "finding" "[I", Cond.methodLink RX4 133 yX4_isComplaint, Cond.instanceMethod yX4_isComplaint, Cond.selects RX4 yX4_isComplaint yX4_isComplaint, Cond.initialized RX4, Cond.code yX4_isComplaint cX4_isComplaint 2 (some .boolean), Cond.fieldLink RX4 89 "GrievancehallModel" "complaints" "I", Cond.methodLink RX4 82 yX4_in, Cond.static yX4_in, Cond.code yX4_in cX4_in 3 (some .boolean), Cond.methodLink RX4 92 yX4_asks, Cond.instanceMethod yX4_asks, Cond.selects RX4 yX4_asks yX4_asks, Cond.code yX4_asks cX4_asks 2 (some .boolean), Cond.fieldLink RX4 75 "GrievancehallModel" "thrown" "I", Cond.methodLink RX4 154 yX4_ones, Cond.static yX4_ones, Cond.code yX4_ones cX4_ones 3 (some .int), Cond.methodLink RX4 136 yX4_isOwed, Cond.instanceMethod yX4_isOwed]
def wsX4_about_r2 : List Cond := [Cond.selects RX4 yX4_isOwed yX4_isOwed, Cond.code yX4_isOwed cX4_isOwed 2 (some .boolean), Cond.fieldLink RX4 63 "GrievancehallModel" "asked" "[I", Cond.fieldLink RX4 66 "GrievancehallModel" "isAnswered" "[Z", Cond.methodLink RX4 99 yX4_fails, Cond.instanceMethod yX4_fails, Cond.selects RX4 yX4_fails yX4_fails, Cond.code yX4_fails cX4_fails 2 (some .int)]
def wsX4_about : List Cond := .code yX4_about cX4_about 3 (some .int) :: ((wsX4_about_r1 ++ wsX4_about_r2) ++ wsX40)
def wsX4_reminder : List Cond := .code yX4_reminder cX4_reminder 5 (some .int) :: ([.fieldLink RX4 23 "GrievancehallModel" "whoseAct" "[I", .fieldLink RX4 51 "GrievancehallModel" "about" "[I", .fieldLink RX4 107 "GrievancehallModel" "day" "I", .fieldLink RX4 63 "GrievancehallModel" "asked" "[I", .fieldLink RX4 13 "GrievancehallModel" "above" "[I", .methodLink RX4 133 yX4_isComplaint, .instanceMethod yX4_isComplaint, .selects RX4 yX4_isComplaint yX4_isComplaint, .initialized RX4, .code yX4_isComplaint cX4_isComplaint 2 (some .boolean), .fieldLink RX4 89 "GrievancehallModel" "complaints" "I", .methodLink RX4 82 yX4_in, .static yX4_in, .code yX4_in cX4_in 3 (some .boolean), .methodLink RX4 92 yX4_asks, .instanceMethod yX4_asks, .selects RX4 yX4_asks yX4_asks, .code yX4_asks cX4_asks 2 (some .boolean), .fieldLink RX4 75 "GrievancehallModel" "thrown" "I", .methodLink RX4 136 yX4_isOwed, .instanceMethod yX4_isOwed, .selects RX4 yX4_isOwed yX4_isOwed, .code yX4_isOwed cX4_isOwed 2 (some .boolean), .fieldLink RX4 66 "GrievancehallModel" "isAnswered" "[Z"] ++ wsX40)
def wsX4_fault_r1 : List Cond := [Cond.methodLink RX4 120 yX4_isAct, Cond.instanceMethod yX4_isAct, Cond.selects RX4 yX4_isAct yX4_isAct, Cond.initialized RX4, Cond.code yX4_isAct cX4_isAct 2 (some .boolean), Cond.fieldLink RX4 86 "GrievancehallModel" "acts" "I", Cond.methodLink RX4 82 yX4_in, Cond.static yX4_in, Cond.code yX4_in cX4_in 3 (some .boolean), Cond.methodLink RX4 92 yX4_asks, Cond.instanceMethod yX4_asks, Cond.selects RX4 yX4_asks yX4_asks, Cond.code yX4_asks cX4_asks 2 (some .boolean), Cond.fieldLink RX4 75 "GrievancehallModel" "thrown" "I", Cond.methodLink RX4 151 yX4_faultOf, Cond.instanceMethod yX4_faultOf, Cond.selects RX4 yX4_faultOf yX4_faultOf, Cond.code yX4_faultOf cX4_faultOf 2 (some .int), Cond.methodLink RX4 145 yX4_doesFail, Cond.instanceMethod yX4_doesFail, Cond.selects RX4 yX4_doesFail yX4_doesFail, Cond.code yX4_doesFail cX4_doesFail 2 (some .boolean), Cond.fieldLink RX4 32 "GrievancehallModel" "measure" "[I", Cond.fieldLink RX4 20 "GrievancehallModel" "limits" "[I"]
def wsX4_fault_r2 : List Cond := [Cond.fieldLink RX4 26 "GrievancehallModel" "kind" "[I", Cond.fieldLink RX4 29 "GrievancehallModel" "told" "[I", Cond.methodLink RX4 148 yX4_isUnequal, Cond.instanceMethod yX4_isUnequal, Cond.selects RX4 yX4_isUnequal yX4_isUnequal, Cond.code yX4_isUnequal cX4_isUnequal 5 (some .boolean), Cond.methodLink RX4 142 yX4_likesOf, Cond.instanceMethod yX4_likesOf, Cond.selects RX4 yX4_likesOf yX4_likesOf, Cond.code yX4_likesOf cX4_likesOf 4 (some .int), Cond.methodLink RX4 139 yX4_areLike, Cond.instanceMethod yX4_areLike, Cond.selects RX4 yX4_areLike yX4_areLike, Cond.code yX4_areLike cX4_areLike 3 (some .boolean), Cond.fieldLink RX4 23 "GrievancehallModel" "whoseAct" "[I"]
def wsX4_fault : List Cond := .code yX4_fault cX4_fault 2 (some .int) :: ((wsX4_fault_r1 ++ wsX4_fault_r2) ++ wsX40)
def wsX4_likes : List Cond := .code yX4_likes cX4_likes 2 (some .int) :: ([.methodLink RX4 120 yX4_isAct, .instanceMethod yX4_isAct, .selects RX4 yX4_isAct yX4_isAct, .initialized RX4, .code yX4_isAct cX4_isAct 2 (some .boolean), .fieldLink RX4 86 "GrievancehallModel" "acts" "I", .methodLink RX4 82 yX4_in, .static yX4_in, .code yX4_in cX4_in 3 (some .boolean), .methodLink RX4 92 yX4_asks, .instanceMethod yX4_asks, .selects RX4 yX4_asks yX4_asks, .code yX4_asks cX4_asks 2 (some .boolean), .fieldLink RX4 75 "GrievancehallModel" "thrown" "I", .methodLink RX4 142 yX4_likesOf, .instanceMethod yX4_likesOf, .selects RX4 yX4_likesOf yX4_likesOf, .code yX4_likesOf cX4_likesOf 4 (some .int), .methodLink RX4 139 yX4_areLike, .instanceMethod yX4_areLike, .selects RX4 yX4_areLike yX4_areLike, .code yX4_areLike cX4_areLike 3 (some .boolean), .fieldLink RX4 26 "GrievancehallModel" "kind" "[I", .fieldLink RX4 23 "GrievancehallModel" "whoseAct" "[I"] ++ wsX40)
def wsX4_remedied : List Cond := .code yX4_remedied cX4_remedied 2 (some .int) :: ([.fieldLink RX4 45 "GrievancehallModel" "remedy" "[I", .methodLink RX4 120 yX4_isAct, .instanceMethod yX4_isAct, .selects RX4 yX4_isAct yX4_isAct, .initialized RX4, .code yX4_isAct cX4_isAct 2 (some .boolean), .fieldLink RX4 86 "GrievancehallModel" "acts" "I", .methodLink RX4 82 yX4_in, .static yX4_in, .code yX4_in cX4_in 3 (some .boolean), .methodLink RX4 92 yX4_asks, .instanceMethod yX4_asks, .selects RX4 yX4_asks yX4_asks, .code yX4_asks cX4_asks 2 (some .boolean), .fieldLink RX4 75 "GrievancehallModel" "thrown" "I"] ++ wsX40)
def wsX4_gains_r1 : List Cond := [Cond.fieldLink RX4 86 "GrievancehallModel" "acts" "I", Cond.fieldLink RX4 32 "GrievancehallModel" "measure" "[I", Cond.fieldLink RX4 26 "GrievancehallModel" "kind" "[I", Cond.methodLink RX4 114 yX4_isKind, Cond.static yX4_isKind, Cond.initialized RX4, Cond.code yX4_isKind cX4_isKind 1 (some .boolean), Cond.methodLink RX4 82 yX4_in, Cond.static yX4_in, Cond.code yX4_in cX4_in 3 (some .boolean), Cond.methodLink RX4 92 yX4_asks, Cond.instanceMethod yX4_asks, Cond.selects RX4 yX4_asks yX4_asks, Cond.code yX4_asks cX4_asks 2 (some .boolean), Cond.fieldLink RX4 75 "GrievancehallModel" "thrown" "I", Cond.methodLink RX4 99 yX4_fails, Cond.instanceMethod yX4_fails, Cond.selects RX4 yX4_fails yX4_fails, Cond.code yX4_fails cX4_fails 2 (some .int), Cond.methodLink RX4 145 yX4_doesFail, Cond.instanceMethod yX4_doesFail, Cond.selects RX4 yX4_doesFail yX4_doesFail, Cond.code yX4_doesFail cX4_doesFail 2 (some .boolean), Cond.fieldLink RX4 20 "GrievancehallModel" "limits" "[I"]
def wsX4_gains_r2 : List Cond := [Cond.fieldLink RX4 29 "GrievancehallModel" "told" "[I"]
def wsX4_gains : List Cond := .code yX4_gains cX4_gains 7 (some .int) :: ((wsX4_gains_r1 ++ wsX4_gains_r2) ++ wsX40)
def wsJ9_max_7cf53 : List Cond := .code yJ9_max_7cf53 cJ9_max_7cf53 2 (some .int) :: ([])
def wsL_letter : List Cond := .codeWith yL_letter cL_letter 4 (some .int) [(0, 9, 12, 13), (0, 9, 15, 15)] :: ([.classLink RL 13 "java/lang/IllegalArgumentException", .classLink RL 15 "java/lang/IllegalStateException", .methodLink RL 7 yX3_letter, .instanceMethod yX3_letter, .selects RX3 yX3_letter yX3_letter, .initialized RX3, .code yX3_letter cX3_letter 2 (some .int), .classLink RX3 41 "java/lang/IllegalArgumentException", .initialized "java/lang/IllegalArgumentException", .classLink RX3 52 "java/lang/IllegalStateException", .initialized "java/lang/IllegalStateException", .fieldLink RX3 48 "Grievancehall" "typedCount" "I", .fieldLink RX3 9 "Grievancehall" "typed" "[C"] ++ wsX30 ++ (vx_atS RX3 45 "java/lang/IllegalArgumentException" ["java/lang/RuntimeException", "java/lang/Exception"]).filter goodWord ++ (vx_atS RX3 56 "java/lang/IllegalStateException" ["java/lang/RuntimeException", "java/lang/Exception"]).filter goodWord)
def wsL_office : List Cond := .codeWith yL_office cL_office 4 (some .int) [(0, 9, 12, 21), (0, 9, 15, 15)] :: ([.classLink RL 21 "java/lang/IndexOutOfBoundsException", .classLink RL 15 "java/lang/IllegalStateException", .methodLink RL 17 yX3_office, .instanceMethod yX3_office, .selects RX3 yX3_office yX3_office, .initialized RX3, .code yX3_office cX3_office 3 (some .int), .classLink RX3 52 "java/lang/IllegalStateException", .initialized "java/lang/IllegalStateException", .fieldLink RX3 57 "Grievancehall" "officeCount" "I", .fieldLink RX3 13 "Grievancehall" "aboveOffice" "[I", .methodLink RX3 60 yX3_needNumber, .static yX3_needNumber, .code yX3_needNumber cX3_needNumber 2 none, .classLink RX3 206 "java/lang/IndexOutOfBoundsException", .initialized "java/lang/IndexOutOfBoundsException"] ++ wsX30 ++ (vx_atS RX3 56 "java/lang/IllegalStateException" ["java/lang/RuntimeException", "java/lang/Exception"]).filter goodWord ++ (vx_atS RX3 210 "java/lang/IndexOutOfBoundsException" ["java/lang/RuntimeException", "java/lang/Exception"]).filter goodWord)
def wsL_delegate_r1 : List Cond := [Cond.classLink RL 21 "java/lang/IndexOutOfBoundsException", Cond.classLink RL 13 "java/lang/IllegalArgumentException", Cond.methodLink RL 23 yX3_delegate, Cond.instanceMethod yX3_delegate, Cond.selects RX3 yX3_delegate yX3_delegate, Cond.initialized RX3, Cond.code yX3_delegate cX3_delegate 4 (some .int), Cond.classLink RX3 41 "java/lang/IllegalArgumentException", Cond.initialized "java/lang/IllegalArgumentException", Cond.fieldLink RX3 57 "Grievancehall" "officeCount" "I", Cond.fieldLink RX3 20 "Grievancehall" "delegations" "LGrievancehall$Changes;", Cond.fieldLink RX3 68 "Grievancehall" "today" "I", Cond.methodLink RX3 60 yX3_needNumber, Cond.static yX3_needNumber, Cond.code yX3_needNumber cX3_needNumber 2 none, Cond.classLink RX3 206 "java/lang/IndexOutOfBoundsException", Cond.initialized "java/lang/IndexOutOfBoundsException", Cond.methodLink RX3 71 yX1_valueOn, Cond.instanceMethod yX1_valueOn, Cond.selects RX1 yX1_valueOn yX1_valueOn, Cond.initialized RX1, Cond.code yX1_valueOn cX1_valueOn 5 (some .int), Cond.fieldLink RX1 21 "Grievancehall$Changes" "count" "I", Cond.fieldLink RX1 9 "Grievancehall$Changes" "things" "[I"]
def wsL_delegate_r2 : List Cond := [Cond.fieldLink RX1 15 "Grievancehall$Changes" "days" "[I", Cond.fieldLink RX1 18 "Grievancehall$Changes" "values" "[I", Cond.methodLink RX3 75 yX1_tell, Cond.instanceMethod yX1_tell, Cond.selects RX1 yX1_tell yX1_tell, Cond.code yX1_tell cX1_tell 4 none]
def wsL_delegate : List Cond := .codeWith yL_delegate cL_delegate 5 (some .int) [(0, 10, 13, 21), (0, 10, 17, 13)] :: ((wsL_delegate_r1 ++ wsL_delegate_r2) ++ wsX30 ++ wsX10 ++ (vx_atS RX3 45 "java/lang/IllegalArgumentException" ["java/lang/RuntimeException", "java/lang/Exception"]).filter goodWord ++ (vx_atS RX3 210 "java/lang/IndexOutOfBoundsException" ["java/lang/RuntimeException", "java/lang/Exception"]).filter goodWord)
def wsL_whose_r1 : List Cond := [Cond.classLink RL 21 "java/lang/IndexOutOfBoundsException", Cond.classLink RL 13 "java/lang/IllegalArgumentException", Cond.methodLink RL 27 yX3_whose, Cond.instanceMethod yX3_whose, Cond.selects RX3 yX3_whose yX3_whose, Cond.initialized RX3, Cond.code yX3_whose cX3_whose 3 (some .int), Cond.fieldLink RX3 57 "Grievancehall" "officeCount" "I", Cond.fieldLink RX3 68 "Grievancehall" "today" "I", Cond.methodLink RX3 60 yX3_needNumber, Cond.static yX3_needNumber, Cond.code yX3_needNumber cX3_needNumber 2 none, Cond.classLink RX3 206 "java/lang/IndexOutOfBoundsException", Cond.initialized "java/lang/IndexOutOfBoundsException", Cond.methodLink RX3 79 yX3_needRange, Cond.static yX3_needRange, Cond.code yX3_needRange cX3_needRange 3 none, Cond.classLink RX3 41 "java/lang/IllegalArgumentException", Cond.initialized "java/lang/IllegalArgumentException", Cond.methodLink RX3 82 yX3_ownerOn, Cond.instanceMethod yX3_ownerOn, Cond.selects RX3 yX3_ownerOn yX3_ownerOn, Cond.code yX3_ownerOn cX3_ownerOn 6 (some .int), Cond.fieldLink RX3 20 "Grievancehall" "delegations" "LGrievancehall$Changes;"]
def wsL_whose_r2 : List Cond := [Cond.methodLink RX3 71 yX1_valueOn, Cond.instanceMethod yX1_valueOn, Cond.selects RX1 yX1_valueOn yX1_valueOn, Cond.initialized RX1, Cond.code yX1_valueOn cX1_valueOn 5 (some .int), Cond.fieldLink RX1 21 "Grievancehall$Changes" "count" "I", Cond.fieldLink RX1 9 "Grievancehall$Changes" "things" "[I", Cond.fieldLink RX1 15 "Grievancehall$Changes" "days" "[I", Cond.fieldLink RX1 18 "Grievancehall$Changes" "values" "[I"]
def wsL_whose : List Cond := .codeWith yL_whose cL_whose 5 (some .int) [(0, 10, 13, 21), (0, 10, 17, 13)] :: ((wsL_whose_r1 ++ wsL_whose_r2) ++ wsX30 ++ wsX10 ++ (vx_atS RX3 210 "java/lang/IndexOutOfBoundsException" ["java/lang/RuntimeException", "java/lang/Exception"]).filter goodWord ++ (vx_atS RX3 45 "java/lang/IllegalArgumentException" ["java/lang/RuntimeException", "java/lang/Exception"]).filter goodWord)
def wsL_limit_r1 : List Cond := [Cond.classLink RL 21 "java/lang/IndexOutOfBoundsException", Cond.classLink RL 13 "java/lang/IllegalArgumentException", Cond.methodLink RL 30 yX3_limit, Cond.instanceMethod yX3_limit, Cond.selects RX3 yX3_limit yX3_limit, Cond.initialized RX3, Cond.code yX3_limit cX3_limit 4 (some .int), Cond.fieldLink RX3 24 "Grievancehall" "limits" "LGrievancehall$Changes;", Cond.fieldLink RX3 68 "Grievancehall" "today" "I", Cond.methodLink RX3 60 yX3_needNumber, Cond.static yX3_needNumber, Cond.code yX3_needNumber cX3_needNumber 2 none, Cond.classLink RX3 206 "java/lang/IndexOutOfBoundsException", Cond.initialized "java/lang/IndexOutOfBoundsException", Cond.methodLink RX3 79 yX3_needRange, Cond.static yX3_needRange, Cond.code yX3_needRange cX3_needRange 3 none, Cond.classLink RX3 41 "java/lang/IllegalArgumentException", Cond.initialized "java/lang/IllegalArgumentException", Cond.methodLink RX3 71 yX1_valueOn, Cond.instanceMethod yX1_valueOn, Cond.selects RX1 yX1_valueOn yX1_valueOn, Cond.initialized RX1, Cond.code yX1_valueOn cX1_valueOn 5 (some .int)]
def wsL_limit_r2 : List Cond := [Cond.fieldLink RX1 21 "Grievancehall$Changes" "count" "I", Cond.fieldLink RX1 9 "Grievancehall$Changes" "things" "[I", Cond.fieldLink RX1 15 "Grievancehall$Changes" "days" "[I", Cond.fieldLink RX1 18 "Grievancehall$Changes" "values" "[I", Cond.methodLink RX3 75 yX1_tell, Cond.instanceMethod yX1_tell, Cond.selects RX1 yX1_tell yX1_tell, Cond.code yX1_tell cX1_tell 4 none]
def wsL_limit : List Cond := .codeWith yL_limit cL_limit 5 (some .int) [(0, 10, 13, 21), (0, 10, 17, 13)] :: ((wsL_limit_r1 ++ wsL_limit_r2) ++ wsX30 ++ wsX10 ++ (vx_atS RX3 210 "java/lang/IndexOutOfBoundsException" ["java/lang/RuntimeException", "java/lang/Exception"]).filter goodWord ++ (vx_atS RX3 45 "java/lang/IllegalArgumentException" ["java/lang/RuntimeException", "java/lang/Exception"]).filter goodWord)
def wsL_act_r1 : List Cond := [Cond.classLink RL 21 "java/lang/IndexOutOfBoundsException", Cond.classLink RL 13 "java/lang/IllegalArgumentException", Cond.classLink RL 15 "java/lang/IllegalStateException", Cond.methodLink RL 33 yX3_act, Cond.instanceMethod yX3_act, Cond.selects RX3 yX3_act yX3_act, Cond.initialized RX3, Cond.code yX3_act cX3_act 6 (some .int), Cond.classLink RX3 52 "java/lang/IllegalStateException", Cond.initialized "java/lang/IllegalStateException", Cond.fieldLink RX3 57 "Grievancehall" "officeCount" "I", Cond.fieldLink RX3 86 "Grievancehall" "actCount" "I", Cond.fieldLink RX3 48 "Grievancehall" "typedCount" "I", Cond.fieldLink RX3 29 "Grievancehall" "acts" "[LGrievancehall$Act;", Cond.fieldLink RX3 68 "Grievancehall" "today" "I", Cond.methodLink RX3 60 yX3_needNumber, Cond.static yX3_needNumber, Cond.code yX3_needNumber cX3_needNumber 2 none, Cond.classLink RX3 206 "java/lang/IndexOutOfBoundsException", Cond.initialized "java/lang/IndexOutOfBoundsException", Cond.methodLink RX3 79 yX3_needRange, Cond.static yX3_needRange, Cond.code yX3_needRange cX3_needRange 3 none, Cond.classLink RX3 41 "java/lang/IllegalArgumentException"]
def wsL_act_r2 : List Cond := [Cond.initialized "java/lang/IllegalArgumentException", Cond.methodLink RX3 91 yX3_typedKind, Cond.instanceMethod yX3_typedKind, Cond.selects RX3 yX3_typedKind yX3_typedKind, Cond.code yX3_typedKind cX3_typedKind 2 (some .int), Cond.methodLink RX3 221 yX3_wordOf, Cond.static yX3_wordOf, Cond.code yX3_wordOf cX3_wordOf 1 (some (.object "java/lang/String")), Cond.methodLink RX3 225 yX3_isTyped, Cond.instanceMethod yX3_isTyped, Cond.selects RX3 yX3_isTyped yX3_isTyped, Cond.code yX3_isTyped cX3_isTyped 3 (some .boolean), Cond.fieldLink RX3 9 "Grievancehall" "typed" "[C", Cond.methodLink RX3 229 yJ0_length_8abf5, Cond.instanceMethod yJ0_length_8abf5, Cond.selects RJ0 yJ0_length_8abf5 yJ0_length_8abf5, Cond.initialized RJ0, Cond.code yJ0_length_8abf5 cJ0_length_8abf5 1 (some .int), Cond.fieldLink RJ0 9 "java/lang/String" "value" "[B", Cond.methodLink RJ0 335 yJ0_coder_7d493, Cond.instanceMethod yJ0_coder_7d493, Cond.selects RJ0 yJ0_coder_7d493 yJ0_coder_7d493, Cond.code yJ0_coder_7d493 cJ0_coder_7d493 1 (some .byte), Cond.fieldLink RJ0 38 "java/lang/String" "COMPACT_STRINGS" "Z"]
def wsL_act_r3 : List Cond := [Cond.fieldLink RJ0 15 "java/lang/String" "coder" "B", Cond.methodLink RX3 234 yJ0_charAt_5068e, Cond.instanceMethod yJ0_charAt_5068e, Cond.selects RJ0 yJ0_charAt_5068e yJ0_charAt_5068e, Cond.code yJ0_charAt_5068e cJ0_charAt_5068e 2 (some .char), Cond.methodLink RJ0 492 yJ0_isLatin1_aae02, Cond.instanceMethod yJ0_isLatin1_aae02, Cond.selects RJ0 yJ0_isLatin1_aae02 yJ0_isLatin1_aae02, Cond.code yJ0_isLatin1_aae02 cJ0_isLatin1_aae02 1 (some .boolean), Cond.methodLink RJ0 495 yJ1_charAt_3b067, Cond.static yJ1_charAt_3b067, Cond.initialized RJ1, Cond.code yJ1_charAt_3b067 cJ1_charAt_3b067 2 (some .char), Cond.methodLink RJ1 9 yJ0_checkIndex_df160, Cond.static yJ0_checkIndex_df160, Cond.code yJ0_checkIndex_df160 cJ0_checkIndex_df160 2 none, Cond.fieldLink RJ0 1053 "jdk/internal/util/Preconditions" "SIOOBE_FORMATTER" "Ljava/util/function/BiFunction;", Cond.methodLink RJ0 1059 yJ3_checkIndex_8e157, Cond.static yJ3_checkIndex_8e157, Cond.initialized RJ3, Cond.code yJ3_checkIndex_8e157 cJ3_checkIndex_8e157 3 (some .int), Cond.methodLink RJ0 498 yJ2_charAt_3b067, Cond.static yJ2_charAt_3b067, Cond.initialized RJ2]
def wsL_act_r4 : List Cond := [Cond.code yJ2_charAt_3b067 cJ2_charAt_3b067 2 (some .char), Cond.methodLink RJ2 67 yJ2_checkIndex_2214a, Cond.static yJ2_checkIndex_2214a, Cond.code yJ2_checkIndex_2214a cJ2_checkIndex_2214a 2 none, Cond.methodLink RJ2 48 yJ2_length_9d52b, Cond.static yJ2_length_9d52b, Cond.code yJ2_length_9d52b cJ2_length_9d52b 1 (some .int), Cond.methodLink RJ2 414 yJ0_checkIndex_df160, Cond.methodLink RJ2 71 yJ2_getChar_3b067, Cond.static yJ2_getChar_3b067, Cond.code yJ2_getChar_3b067 cJ2_getChar_3b067 2 (some .char), Cond.fieldLink RJ2 44 "java/lang/StringUTF16" "$assertionsDisabled" "Z", Cond.fieldLink RJ2 59 "java/lang/StringUTF16" "HI_BYTE_SHIFT" "I", Cond.fieldLink RJ2 63 "java/lang/StringUTF16" "LO_BYTE_SHIFT" "I", Cond.methodLink RX3 82 yX3_ownerOn, Cond.instanceMethod yX3_ownerOn, Cond.selects RX3 yX3_ownerOn yX3_ownerOn, Cond.code yX3_ownerOn cX3_ownerOn 6 (some .int), Cond.fieldLink RX3 20 "Grievancehall" "delegations" "LGrievancehall$Changes;", Cond.methodLink RX3 71 yX1_valueOn, Cond.instanceMethod yX1_valueOn, Cond.selects RX1 yX1_valueOn yX1_valueOn, Cond.initialized RX1, Cond.code yX1_valueOn cX1_valueOn 5 (some .int)]
def wsL_act_r5 : List Cond := [Cond.fieldLink RX1 21 "Grievancehall$Changes" "count" "I", Cond.fieldLink RX1 9 "Grievancehall$Changes" "things" "[I", Cond.fieldLink RX1 15 "Grievancehall$Changes" "days" "[I", Cond.fieldLink RX1 18 "Grievancehall$Changes" "values" "[I", Cond.methodLink RX3 95 yX0_begin, Cond.instanceMethod yX0_begin, Cond.selects RX0 yX0_begin yX0_begin, Cond.initialized RX0, Cond.code yX0_begin cX0_begin 6 none, Cond.fieldLink RX0 19 "Grievancehall$Act" "owner" "I", Cond.fieldLink RX0 22 "Grievancehall$Act" "kind" "I", Cond.fieldLink RX0 25 "Grievancehall$Act" "day" "I", Cond.fieldLink RX0 28 "Grievancehall$Act" "measure" "I", Cond.fieldLink RX0 31 "Grievancehall$Act" "harm" "I"]
def wsL_act : List Cond := .codeWith yL_act cL_act 6 (some .int) [(0, 12, 15, 21), (0, 12, 19, 13), (0, 12, 23, 15)] :: ((wsL_act_r1 ++ (wsL_act_r2 ++ (wsL_act_r3 ++ (wsL_act_r4 ++ wsL_act_r5)))) ++ wsX30 ++ wsX10 ++ wsX00 ++ (vx_atS RX3 56 "java/lang/IllegalStateException" ["java/lang/RuntimeException", "java/lang/Exception"]).filter goodWord ++ (vx_atS RX3 210 "java/lang/IndexOutOfBoundsException" ["java/lang/RuntimeException", "java/lang/Exception"]).filter goodWord ++ (vx_atS RX3 45 "java/lang/IllegalArgumentException" ["java/lang/RuntimeException", "java/lang/Exception"]).filter goodWord)
def wsL_court : List Cond := .codeWith yL_court cL_court 5 (some .int) [(0, 17, 20, 21)] :: ([.classLink RL 21 "java/lang/IndexOutOfBoundsException", .methodLink RL 37 yX3_court, .instanceMethod yX3_court, .selects RX3 yX3_court yX3_court, .initialized RX3, .code yX3_court cX3_court 4 (some .boolean), .fieldLink RX3 86 "Grievancehall" "actCount" "I", .fieldLink RX3 29 "Grievancehall" "acts" "[LGrievancehall$Act;", .fieldLink RX3 99 "Grievancehall$Act" "inCourt" "Z", .methodLink RX3 60 yX3_needNumber, .static yX3_needNumber, .code yX3_needNumber cX3_needNumber 2 none, .classLink RX3 206 "java/lang/IndexOutOfBoundsException", .initialized "java/lang/IndexOutOfBoundsException"] ++ wsX30 ++ wsX00 ++ (vx_atS RX3 210 "java/lang/IndexOutOfBoundsException" ["java/lang/RuntimeException", "java/lang/Exception"]).filter goodWord)
def wsL_waive : List Cond := .codeWith yL_waive cL_waive 5 (some .int) [(0, 17, 20, 21)] :: ([.classLink RL 21 "java/lang/IndexOutOfBoundsException", .methodLink RL 41 yX3_waive, .instanceMethod yX3_waive, .selects RX3 yX3_waive yX3_waive, .initialized RX3, .code yX3_waive cX3_waive 4 (some .boolean), .fieldLink RX3 86 "Grievancehall" "actCount" "I", .fieldLink RX3 29 "Grievancehall" "acts" "[LGrievancehall$Act;", .fieldLink RX3 103 "Grievancehall$Act" "timeWaived" "Z", .methodLink RX3 60 yX3_needNumber, .static yX3_needNumber, .code yX3_needNumber cX3_needNumber 2 none, .classLink RX3 206 "java/lang/IndexOutOfBoundsException", .initialized "java/lang/IndexOutOfBoundsException"] ++ wsX30 ++ wsX00 ++ (vx_atS RX3 210 "java/lang/IndexOutOfBoundsException" ["java/lang/RuntimeException", "java/lang/Exception"]).filter goodWord)
def wsL_plea : List Cond := .codeWith yL_plea cL_plea 4 (some .int) [(0, 6, 9, 21), (0, 6, 12, 15)] :: ([.classLink RL 21 "java/lang/IndexOutOfBoundsException", .classLink RL 15 "java/lang/IllegalStateException", .methodLink RL 44 yX3_plea, .instanceMethod yX3_plea, .selects RX3 yX3_plea yX3_plea, .initialized RX3, .code yX3_plea cX3_plea 3 none, .classLink RX3 52 "java/lang/IllegalStateException", .initialized "java/lang/IllegalStateException", .fieldLink RX3 86 "Grievancehall" "actCount" "I", .fieldLink RX3 29 "Grievancehall" "acts" "[LGrievancehall$Act;", .fieldLink RX3 106 "Grievancehall$Act" "pleaDays" "[I", .fieldLink RX3 68 "Grievancehall" "today" "I", .methodLink RX3 60 yX3_needNumber, .static yX3_needNumber, .code yX3_needNumber cX3_needNumber 2 none, .classLink RX3 206 "java/lang/IndexOutOfBoundsException", .initialized "java/lang/IndexOutOfBoundsException"] ++ wsX30 ++ wsX00 ++ (vx_atS RX3 56 "java/lang/IllegalStateException" ["java/lang/RuntimeException", "java/lang/Exception"]).filter goodWord ++ (vx_atS RX3 210 "java/lang/IndexOutOfBoundsException" ["java/lang/RuntimeException", "java/lang/Exception"]).filter goodWord)
def wsL_bar : List Cond := .codeWith yL_bar cL_bar 5 (some .int) [(0, 10, 13, 21)] :: ([.classLink RL 21 "java/lang/IndexOutOfBoundsException", .methodLink RL 48 yX3_bar, .instanceMethod yX3_bar, .selects RX3 yX3_bar yX3_bar, .initialized RX3, .code yX3_bar cX3_bar 3 (some .int), .fieldLink RX3 86 "Grievancehall" "actCount" "I", .fieldLink RX3 29 "Grievancehall" "acts" "[LGrievancehall$Act;", .fieldLink RX3 68 "Grievancehall" "today" "I", .methodLink RX3 60 yX3_needNumber, .static yX3_needNumber, .code yX3_needNumber cX3_needNumber 2 none, .classLink RX3 206 "java/lang/IndexOutOfBoundsException", .initialized "java/lang/IndexOutOfBoundsException", .methodLink RX3 111 yX0_barOn, .instanceMethod yX0_barOn, .selects RX0 yX0_barOn yX0_barOn, .initialized RX0, .code yX0_barOn cX0_barOn 3 (some .int), .fieldLink RX0 9 "Grievancehall$Act" "pleaDays" "[I", .fieldLink RX0 34 "Grievancehall$Act" "inCourt" "Z", .fieldLink RX0 25 "Grievancehall$Act" "day" "I", .fieldLink RX0 38 "Grievancehall$Act" "timeWaived" "Z"] ++ wsX30 ++ wsX00 ++ (vx_atS RX3 210 "java/lang/IndexOutOfBoundsException" ["java/lang/RuntimeException", "java/lang/Exception"]).filter goodWord)
def wsL_complain_r1 : List Cond := [Cond.classLink RL 21 "java/lang/IndexOutOfBoundsException", Cond.classLink RL 15 "java/lang/IllegalStateException", Cond.methodLink RL 51 yX3_complain, Cond.instanceMethod yX3_complain, Cond.selects RX3 yX3_complain yX3_complain, Cond.initialized RX3, Cond.code yX3_complain cX3_complain 4 (some .int), Cond.classLink RX3 52 "java/lang/IllegalStateException", Cond.initialized "java/lang/IllegalStateException", Cond.fieldLink RX3 86 "Grievancehall" "actCount" "I", Cond.fieldLink RX3 29 "Grievancehall" "acts" "[LGrievancehall$Act;", Cond.fieldLink RX3 68 "Grievancehall" "today" "I", Cond.fieldLink RX3 36 "Grievancehall" "complaints" "[LGrievancehall$Complaint;", Cond.methodLink RX3 60 yX3_needNumber, Cond.static yX3_needNumber, Cond.code yX3_needNumber cX3_needNumber 2 none, Cond.classLink RX3 206 "java/lang/IndexOutOfBoundsException", Cond.initialized "java/lang/IndexOutOfBoundsException", Cond.methodLink RX3 111 yX0_barOn, Cond.instanceMethod yX0_barOn, Cond.selects RX0 yX0_barOn yX0_barOn, Cond.initialized RX0, Cond.code yX0_barOn cX0_barOn 3 (some .int), Cond.fieldLink RX0 9 "Grievancehall$Act" "pleaDays" "[I"]
def wsL_complain_r2 : List Cond := [Cond.fieldLink RX0 34 "Grievancehall$Act" "inCourt" "Z", Cond.fieldLink RX0 25 "Grievancehall$Act" "day" "I", Cond.fieldLink RX0 38 "Grievancehall$Act" "timeWaived" "Z", Cond.methodLink RX3 116 yX3_complaintToJoin, Cond.instanceMethod yX3_complaintToJoin, Cond.selects RX3 yX3_complaintToJoin yX3_complaintToJoin, Cond.code yX3_complaintToJoin cX3_complaintToJoin 3 (some .int), Cond.fieldLink RX3 127 "Grievancehall" "complaintCount" "I", Cond.fieldLink RX3 141 "Grievancehall$Complaint" "actNumber" "I", Cond.fieldLink RX3 130 "Grievancehall$Complaint" "state" "I", Cond.methodLink RX3 120 yX3_beginComplaint, Cond.instanceMethod yX3_beginComplaint, Cond.selects RX3 yX3_beginComplaint yX3_beginComplaint, Cond.code yX3_beginComplaint cX3_beginComplaint 3 (some .int), Cond.methodLink RX3 240 yX2_begin, Cond.instanceMethod yX2_begin, Cond.selects RX2 yX2_begin yX2_begin, Cond.initialized RX2, Cond.code yX2_begin cX2_begin 2 none, Cond.fieldLink RX2 9 "Grievancehall$Complaint" "actNumber" "I", Cond.fieldLink RX2 15 "Grievancehall$Complaint" "state" "I", Cond.fieldLink RX2 18 "Grievancehall$Complaint" "daysLeft" "I", Cond.fieldLink RX2 21 "Grievancehall$Complaint" "file" "I", Cond.fieldLink RX2 24 "Grievancehall$Complaint" "finding" "I"]
def wsL_complain_r3 : List Cond := [Cond.methodLink RX3 123 yX2_join, Cond.instanceMethod yX2_join, Cond.selects RX2 yX2_join yX2_join, Cond.code yX2_join cX2_join 2 none, Cond.fieldLink RX2 27 "Grievancehall$Complaint" "people" "I"]
def wsL_complain : List Cond := .codeWith yL_complain cL_complain 5 (some .int) [(0, 10, 13, 21), (0, 10, 17, 15)] :: ((wsL_complain_r1 ++ (wsL_complain_r2 ++ wsL_complain_r3)) ++ wsX30 ++ wsX00 ++ wsX20 ++ (vx_atS RX3 56 "java/lang/IllegalStateException" ["java/lang/RuntimeException", "java/lang/Exception"]).filter goodWord ++ (vx_atS RX3 210 "java/lang/IndexOutOfBoundsException" ["java/lang/RuntimeException", "java/lang/Exception"]).filter goodWord)
def wsL_ask : List Cond := .codeWith yL_ask cL_ask 4 (some .int) [(0, 9, 12, 21), (0, 9, 15, 15)] :: ([.classLink RL 21 "java/lang/IndexOutOfBoundsException", .classLink RL 15 "java/lang/IllegalStateException", .methodLink RL 54 yX3_ask, .instanceMethod yX3_ask, .selects RX3 yX3_ask yX3_ask, .initialized RX3, .code yX3_ask cX3_ask 3 (some .int), .classLink RX3 52 "java/lang/IllegalStateException", .initialized "java/lang/IllegalStateException", .fieldLink RX3 127 "Grievancehall" "complaintCount" "I", .fieldLink RX3 36 "Grievancehall" "complaints" "[LGrievancehall$Complaint;", .fieldLink RX3 130 "Grievancehall$Complaint" "state" "I", .fieldLink RX3 133 "Grievancehall$Complaint" "file" "I", .fieldLink RX3 68 "Grievancehall" "today" "I", .fieldLink RX3 138 "Grievancehall$Complaint" "askedDay" "I", .fieldLink RX3 29 "Grievancehall" "acts" "[LGrievancehall$Act;", .fieldLink RX3 141 "Grievancehall$Complaint" "actNumber" "I", .fieldLink RX3 144 "Grievancehall$Act" "owner" "I", .methodLink RX3 60 yX3_needNumber, .static yX3_needNumber, .code yX3_needNumber cX3_needNumber 2 none, .classLink RX3 206 "java/lang/IndexOutOfBoundsException", .initialized "java/lang/IndexOutOfBoundsException"] ++ wsX30 ++ wsX20 ++ wsX00 ++ (vx_atS RX3 56 "java/lang/IllegalStateException" ["java/lang/RuntimeException", "java/lang/Exception"]).filter goodWord ++ (vx_atS RX3 210 "java/lang/IndexOutOfBoundsException" ["java/lang/RuntimeException", "java/lang/Exception"]).filter goodWord)
def wsL_answer : List Cond := .codeWith yL_answer cL_answer 4 (some .int) [(0, 9, 12, 21), (0, 9, 15, 15)] :: ([.classLink RL 21 "java/lang/IndexOutOfBoundsException", .classLink RL 15 "java/lang/IllegalStateException", .methodLink RL 57 yX3_answer, .instanceMethod yX3_answer, .selects RX3 yX3_answer yX3_answer, .initialized RX3, .code yX3_answer cX3_answer 3 (some .int), .classLink RX3 52 "java/lang/IllegalStateException", .initialized "java/lang/IllegalStateException", .fieldLink RX3 127 "Grievancehall" "complaintCount" "I", .fieldLink RX3 36 "Grievancehall" "complaints" "[LGrievancehall$Complaint;", .fieldLink RX3 133 "Grievancehall$Complaint" "file" "I", .fieldLink RX3 68 "Grievancehall" "today" "I", .fieldLink RX3 138 "Grievancehall$Complaint" "askedDay" "I", .methodLink RX3 60 yX3_needNumber, .static yX3_needNumber, .code yX3_needNumber cX3_needNumber 2 none, .classLink RX3 206 "java/lang/IndexOutOfBoundsException", .initialized "java/lang/IndexOutOfBoundsException"] ++ wsX30 ++ wsX20 ++ (vx_atS RX3 56 "java/lang/IllegalStateException" ["java/lang/RuntimeException", "java/lang/Exception"]).filter goodWord ++ (vx_atS RX3 210 "java/lang/IndexOutOfBoundsException" ["java/lang/RuntimeException", "java/lang/Exception"]).filter goodWord)
def wsL_hear : List Cond := .codeWith yL_hear cL_hear 3 (some .int) [(0, 5, 8, 21), (0, 5, 11, 15)] :: ([.classLink RL 21 "java/lang/IndexOutOfBoundsException", .classLink RL 15 "java/lang/IllegalStateException", .methodLink RL 60 yX3_hear, .instanceMethod yX3_hear, .selects RX3 yX3_hear yX3_hear, .initialized RX3, .code yX3_hear cX3_hear 3 none, .classLink RX3 52 "java/lang/IllegalStateException", .initialized "java/lang/IllegalStateException", .fieldLink RX3 127 "Grievancehall" "complaintCount" "I", .fieldLink RX3 36 "Grievancehall" "complaints" "[LGrievancehall$Complaint;", .fieldLink RX3 130 "Grievancehall$Complaint" "state" "I", .fieldLink RX3 133 "Grievancehall$Complaint" "file" "I", .fieldLink RX3 149 "Grievancehall$Complaint" "officerHeard" "Z", .methodLink RX3 60 yX3_needNumber, .static yX3_needNumber, .code yX3_needNumber cX3_needNumber 2 none, .classLink RX3 206 "java/lang/IndexOutOfBoundsException", .initialized "java/lang/IndexOutOfBoundsException"] ++ wsX30 ++ wsX20 ++ (vx_atS RX3 56 "java/lang/IllegalStateException" ["java/lang/RuntimeException", "java/lang/Exception"]).filter goodWord ++ (vx_atS RX3 210 "java/lang/IndexOutOfBoundsException" ["java/lang/RuntimeException", "java/lang/Exception"]).filter goodWord)
def wsL_find_r1 : List Cond := [Cond.classLink RL 21 "java/lang/IndexOutOfBoundsException", Cond.classLink RL 15 "java/lang/IllegalStateException", Cond.methodLink RL 64 yX3_find, Cond.instanceMethod yX3_find, Cond.selects RX3 yX3_find yX3_find, Cond.initialized RX3, Cond.code yX3_find cX3_find 3 (some .int), Cond.classLink RX3 52 "java/lang/IllegalStateException", Cond.initialized "java/lang/IllegalStateException", Cond.fieldLink RX3 127 "Grievancehall" "complaintCount" "I", Cond.fieldLink RX3 36 "Grievancehall" "complaints" "[LGrievancehall$Complaint;", Cond.fieldLink RX3 130 "Grievancehall$Complaint" "state" "I", Cond.fieldLink RX3 149 "Grievancehall$Complaint" "officerHeard" "Z", Cond.fieldLink RX3 141 "Grievancehall$Complaint" "actNumber" "I", Cond.fieldLink RX3 159 "Grievancehall$Complaint" "finding" "I", Cond.methodLink RX3 60 yX3_needNumber, Cond.static yX3_needNumber, Cond.code yX3_needNumber cX3_needNumber 2 none, Cond.classLink RX3 206 "java/lang/IndexOutOfBoundsException", Cond.initialized "java/lang/IndexOutOfBoundsException", Cond.methodLink RX3 156 yX3_faultOf, Cond.instanceMethod yX3_faultOf, Cond.selects RX3 yX3_faultOf yX3_faultOf, Cond.code yX3_faultOf cX3_faultOf 3 (some .int)]
def wsL_find_r2 : List Cond := [Cond.methodLink RX3 202 yX3_failsRule, Cond.instanceMethod yX3_failsRule, Cond.selects RX3 yX3_failsRule yX3_failsRule, Cond.code yX3_failsRule cX3_failsRule 2 (some .boolean), Cond.fieldLink RX3 29 "Grievancehall" "acts" "[LGrievancehall$Act;", Cond.fieldLink RX3 199 "Grievancehall$Act" "measure" "I", Cond.fieldLink RX3 24 "Grievancehall" "limits" "LGrievancehall$Changes;", Cond.fieldLink RX3 196 "Grievancehall$Act" "kind" "I", Cond.fieldLink RX3 242 "Grievancehall$Act" "day" "I", Cond.methodLink RX3 71 yX1_valueOn, Cond.instanceMethod yX1_valueOn, Cond.selects RX1 yX1_valueOn yX1_valueOn, Cond.initialized RX1, Cond.code yX1_valueOn cX1_valueOn 5 (some .int), Cond.fieldLink RX1 21 "Grievancehall$Changes" "count" "I", Cond.fieldLink RX1 9 "Grievancehall$Changes" "things" "[I", Cond.fieldLink RX1 15 "Grievancehall$Changes" "days" "[I", Cond.fieldLink RX1 18 "Grievancehall$Changes" "values" "[I", Cond.methodLink RX3 248 yX3_isUnequal, Cond.instanceMethod yX3_isUnequal, Cond.selects RX3 yX3_isUnequal yX3_isUnequal, Cond.code yX3_isUnequal cX3_isUnequal 4 (some .boolean), Cond.methodLink RX3 190 yX3_countLikes, Cond.instanceMethod yX3_countLikes]
def wsL_find_r3 : List Cond := [Cond.selects RX3 yX3_countLikes yX3_countLikes, Cond.code yX3_countLikes cX3_countLikes 4 (some .int), Cond.fieldLink RX3 86 "Grievancehall" "actCount" "I", Cond.methodLink RX3 164 yX3_isLike, Cond.instanceMethod yX3_isLike, Cond.selects RX3 yX3_isLike yX3_isLike, Cond.code yX3_isLike cX3_isLike 3 (some .boolean), Cond.fieldLink RX3 144 "Grievancehall$Act" "owner" "I", Cond.methodLink RX3 245 yX3_sumOfLikes, Cond.instanceMethod yX3_sumOfLikes, Cond.selects RX3 yX3_sumOfLikes yX3_sumOfLikes, Cond.code yX3_sumOfLikes cX3_sumOfLikes 4 (some .int)]
def wsL_find : List Cond := .codeWith yL_find cL_find 4 (some .int) [(0, 9, 12, 21), (0, 9, 15, 15)] :: ((wsL_find_r1 ++ (wsL_find_r2 ++ wsL_find_r3)) ++ wsX30 ++ wsX20 ++ wsX00 ++ wsX10 ++ (vx_atS RX3 56 "java/lang/IllegalStateException" ["java/lang/RuntimeException", "java/lang/Exception"]).filter goodWord ++ (vx_atS RX3 210 "java/lang/IndexOutOfBoundsException" ["java/lang/RuntimeException", "java/lang/Exception"]).filter goodWord)
def wsL_remedy_r1 : List Cond := [Cond.classLink RL 21 "java/lang/IndexOutOfBoundsException", Cond.classLink RL 13 "java/lang/IllegalArgumentException", Cond.classLink RL 15 "java/lang/IllegalStateException", Cond.methodLink RL 67 yX3_remedy, Cond.instanceMethod yX3_remedy, Cond.selects RX3 yX3_remedy yX3_remedy, Cond.initialized RX3, Cond.code yX3_remedy cX3_remedy 6 (some .int), Cond.classLink RX3 52 "java/lang/IllegalStateException", Cond.initialized "java/lang/IllegalStateException", Cond.fieldLink RX3 127 "Grievancehall" "complaintCount" "I", Cond.fieldLink RX3 36 "Grievancehall" "complaints" "[LGrievancehall$Complaint;", Cond.fieldLink RX3 130 "Grievancehall$Complaint" "state" "I", Cond.fieldLink RX3 159 "Grievancehall$Complaint" "finding" "I", Cond.fieldLink RX3 86 "Grievancehall" "actCount" "I", Cond.fieldLink RX3 141 "Grievancehall$Complaint" "actNumber" "I", Cond.fieldLink RX3 29 "Grievancehall" "acts" "[LGrievancehall$Act;", Cond.methodLink RX3 60 yX3_needNumber, Cond.static yX3_needNumber, Cond.code yX3_needNumber cX3_needNumber 2 none, Cond.classLink RX3 206 "java/lang/IndexOutOfBoundsException", Cond.initialized "java/lang/IndexOutOfBoundsException", Cond.methodLink RX3 79 yX3_needRange, Cond.static yX3_needRange]
def wsL_remedy_r2 : List Cond := [Cond.code yX3_needRange cX3_needRange 3 none, Cond.classLink RX3 41 "java/lang/IllegalArgumentException", Cond.initialized "java/lang/IllegalArgumentException", Cond.methodLink RX3 164 yX3_isLike, Cond.instanceMethod yX3_isLike, Cond.selects RX3 yX3_isLike yX3_isLike, Cond.code yX3_isLike cX3_isLike 3 (some .boolean), Cond.fieldLink RX3 196 "Grievancehall$Act" "kind" "I", Cond.fieldLink RX3 144 "Grievancehall$Act" "owner" "I", Cond.methodLink RX3 156 yX3_faultOf, Cond.instanceMethod yX3_faultOf, Cond.selects RX3 yX3_faultOf yX3_faultOf, Cond.code yX3_faultOf cX3_faultOf 3 (some .int), Cond.methodLink RX3 202 yX3_failsRule, Cond.instanceMethod yX3_failsRule, Cond.selects RX3 yX3_failsRule yX3_failsRule, Cond.code yX3_failsRule cX3_failsRule 2 (some .boolean), Cond.fieldLink RX3 199 "Grievancehall$Act" "measure" "I", Cond.fieldLink RX3 24 "Grievancehall" "limits" "LGrievancehall$Changes;", Cond.fieldLink RX3 242 "Grievancehall$Act" "day" "I", Cond.methodLink RX3 71 yX1_valueOn, Cond.instanceMethod yX1_valueOn, Cond.selects RX1 yX1_valueOn yX1_valueOn, Cond.initialized RX1]
def wsL_remedy_r3 : List Cond := [Cond.code yX1_valueOn cX1_valueOn 5 (some .int), Cond.fieldLink RX1 21 "Grievancehall$Changes" "count" "I", Cond.fieldLink RX1 9 "Grievancehall$Changes" "things" "[I", Cond.fieldLink RX1 15 "Grievancehall$Changes" "days" "[I", Cond.fieldLink RX1 18 "Grievancehall$Changes" "values" "[I", Cond.methodLink RX3 248 yX3_isUnequal, Cond.instanceMethod yX3_isUnequal, Cond.selects RX3 yX3_isUnequal yX3_isUnequal, Cond.code yX3_isUnequal cX3_isUnequal 4 (some .boolean), Cond.methodLink RX3 190 yX3_countLikes, Cond.instanceMethod yX3_countLikes, Cond.selects RX3 yX3_countLikes yX3_countLikes, Cond.code yX3_countLikes cX3_countLikes 4 (some .int), Cond.methodLink RX3 245 yX3_sumOfLikes, Cond.instanceMethod yX3_sumOfLikes, Cond.selects RX3 yX3_sumOfLikes yX3_sumOfLikes, Cond.code yX3_sumOfLikes cX3_sumOfLikes 4 (some .int), Cond.methodLink RX3 168 yX0_giveRemedy, Cond.instanceMethod yX0_giveRemedy, Cond.selects RX0 yX0_giveRemedy yX0_giveRemedy, Cond.initialized RX0, Cond.code yX0_giveRemedy cX0_giveRemedy 2 none, Cond.fieldLink RX0 31 "Grievancehall$Act" "harm" "I", Cond.fieldLink RX0 15 "Grievancehall$Act" "remedySum" "I"]
def wsL_remedy : List Cond := .codeWith yL_remedy cL_remedy 5 (some .int) [(0, 10, 13, 21), (0, 10, 17, 13), (0, 10, 21, 15)] :: ((wsL_remedy_r1 ++ (wsL_remedy_r2 ++ wsL_remedy_r3)) ++ wsX30 ++ wsX20 ++ wsX00 ++ wsX10 ++ (vx_atS RX3 56 "java/lang/IllegalStateException" ["java/lang/RuntimeException", "java/lang/Exception"]).filter goodWord ++ (vx_atS RX3 210 "java/lang/IndexOutOfBoundsException" ["java/lang/RuntimeException", "java/lang/Exception"]).filter goodWord ++ (vx_atS RX3 45 "java/lang/IllegalArgumentException" ["java/lang/RuntimeException", "java/lang/Exception"]).filter goodWord)
def wsL_pass_r1 : List Cond := [Cond.classLink RL 13 "java/lang/IllegalArgumentException", Cond.classLink RL 15 "java/lang/IllegalStateException", Cond.methodLink RL 70 yX3_pass, Cond.instanceMethod yX3_pass, Cond.selects RX3 yX3_pass yX3_pass, Cond.initialized RX3, Cond.code yX3_pass cX3_pass 3 (some .int), Cond.classLink RX3 52 "java/lang/IllegalStateException", Cond.initialized "java/lang/IllegalStateException", Cond.fieldLink RX3 68 "Grievancehall" "today" "I", Cond.fieldLink RX3 127 "Grievancehall" "complaintCount" "I", Cond.fieldLink RX3 36 "Grievancehall" "complaints" "[LGrievancehall$Complaint;", Cond.methodLink RX3 79 yX3_needRange, Cond.static yX3_needRange, Cond.code yX3_needRange cX3_needRange 3 none, Cond.classLink RX3 41 "java/lang/IllegalArgumentException", Cond.initialized "java/lang/IllegalArgumentException", Cond.methodLink RX3 173 yX2_letDaysGoBy, Cond.instanceMethod yX2_letDaysGoBy, Cond.selects RX2 yX2_letDaysGoBy yX2_letDaysGoBy, Cond.initialized RX2, Cond.code yX2_letDaysGoBy cX2_letDaysGoBy 2 none, Cond.fieldLink RX2 15 "Grievancehall$Complaint" "state" "I", Cond.fieldLink RX2 21 "Grievancehall$Complaint" "file" "I"]
def wsL_pass_r2 : List Cond := [Cond.fieldLink RX2 18 "Grievancehall$Complaint" "daysLeft" "I", Cond.methodLink RX2 30 Lib.Math.max.name, Cond.static Lib.Math.max.name, Cond.initialized "java/lang/Math", Cond.code Lib.Math.max.name Lib.Math.max.code 2 (some .int)]
def wsL_pass : List Cond := .codeWith yL_pass cL_pass 4 (some .int) [(0, 9, 12, 13), (0, 9, 15, 15)] :: ((wsL_pass_r1 ++ wsL_pass_r2) ++ wsX30 ++ wsX20 ++ (vx_atS RX3 56 "java/lang/IllegalStateException" ["java/lang/RuntimeException", "java/lang/Exception"]).filter goodWord ++ (vx_atS RX3 45 "java/lang/IllegalArgumentException" ["java/lang/RuntimeException", "java/lang/Exception"]).filter goodWord)
def wsL_about_r1 : List Cond := [Cond.classLink RL 21 "java/lang/IndexOutOfBoundsException", Cond.classLink RL 13 "java/lang/IllegalArgumentException", Cond.methodLink RL 73 yX3_about, Cond.instanceMethod yX3_about, Cond.selects RX3 yX3_about yX3_about, Cond.initialized RX3, Cond.code yX3_about cX3_about 4 (some .int), Cond.fieldLink RX3 127 "Grievancehall" "complaintCount" "I", Cond.fieldLink RX3 36 "Grievancehall" "complaints" "[LGrievancehall$Complaint;", Cond.fieldLink RX3 130 "Grievancehall$Complaint" "state" "I", Cond.fieldLink RX3 141 "Grievancehall$Complaint" "actNumber" "I", Cond.fieldLink RX3 176 "Grievancehall$Complaint" "daysLeft" "I", Cond.fieldLink RX3 179 "Grievancehall$Complaint" "people" "I", Cond.fieldLink RX3 133 "Grievancehall$Complaint" "file" "I", Cond.fieldLink RX3 159 "Grievancehall$Complaint" "finding" "I", Cond.methodLink RX3 60 yX3_needNumber, Cond.static yX3_needNumber, Cond.code yX3_needNumber cX3_needNumber 2 none, Cond.classLink RX3 206 "java/lang/IndexOutOfBoundsException", Cond.initialized "java/lang/IndexOutOfBoundsException", Cond.methodLink RX3 79 yX3_needRange, Cond.static yX3_needRange, Cond.code yX3_needRange cX3_needRange 3 none, Cond.classLink RX3 41 "java/lang/IllegalArgumentException"]
def wsL_about_r2 : List Cond := [Cond.initialized "java/lang/IllegalArgumentException", Cond.methodLink RX3 182 yJ6_bitCount_0f7a4, Cond.static yJ6_bitCount_0f7a4, Cond.initialized RJ6, Cond.code yJ6_bitCount_0f7a4 cJ6_bitCount_0f7a4 1 (some .int), Cond.constant RJ6 265 (1431655765), Cond.constant RJ6 266 (858993459), Cond.constant RJ6 267 (252645135)]
def wsL_about : List Cond := .codeWith yL_about cL_about 5 (some .int) [(0, 10, 13, 21), (0, 10, 17, 13)] :: ((wsL_about_r1 ++ wsL_about_r2) ++ wsX30 ++ wsX20 ++ (vx_atS RX3 210 "java/lang/IndexOutOfBoundsException" ["java/lang/RuntimeException", "java/lang/Exception"]).filter goodWord ++ (vx_atS RX3 45 "java/lang/IllegalArgumentException" ["java/lang/RuntimeException", "java/lang/Exception"]).filter goodWord)
def wsL_reminder : List Cond := .codeWith yL_reminder cL_reminder 4 (some .int) [(0, 9, 12, 21)] :: ([.classLink RL 21 "java/lang/IndexOutOfBoundsException", .methodLink RL 76 yX3_reminder, .instanceMethod yX3_reminder, .selects RX3 yX3_reminder yX3_reminder, .initialized RX3, .code yX3_reminder cX3_reminder 3 (some .int), .fieldLink RX3 127 "Grievancehall" "complaintCount" "I", .fieldLink RX3 36 "Grievancehall" "complaints" "[LGrievancehall$Complaint;", .fieldLink RX3 133 "Grievancehall$Complaint" "file" "I", .fieldLink RX3 29 "Grievancehall" "acts" "[LGrievancehall$Act;", .fieldLink RX3 141 "Grievancehall$Complaint" "actNumber" "I", .fieldLink RX3 144 "Grievancehall$Act" "owner" "I", .fieldLink RX3 68 "Grievancehall" "today" "I", .fieldLink RX3 138 "Grievancehall$Complaint" "askedDay" "I", .methodLink RX3 60 yX3_needNumber, .static yX3_needNumber, .code yX3_needNumber cX3_needNumber 2 none, .classLink RX3 206 "java/lang/IndexOutOfBoundsException", .initialized "java/lang/IndexOutOfBoundsException", .methodLink RX3 187 yX3_climbFrom, .instanceMethod yX3_climbFrom, .selects RX3 yX3_climbFrom yX3_climbFrom, .code yX3_climbFrom cX3_climbFrom 5 (some .int), .fieldLink RX3 13 "Grievancehall" "aboveOffice" "[I"] ++ wsX30 ++ wsX20 ++ wsX00 ++ (vx_atS RX3 210 "java/lang/IndexOutOfBoundsException" ["java/lang/RuntimeException", "java/lang/Exception"]).filter goodWord)
def wsL_fault_r1 : List Cond := [Cond.classLink RL 21 "java/lang/IndexOutOfBoundsException", Cond.methodLink RL 79 yX3_fault, Cond.instanceMethod yX3_fault, Cond.selects RX3 yX3_fault yX3_fault, Cond.initialized RX3, Cond.code yX3_fault cX3_fault 2 (some .int), Cond.fieldLink RX3 86 "Grievancehall" "actCount" "I", Cond.methodLink RX3 60 yX3_needNumber, Cond.static yX3_needNumber, Cond.code yX3_needNumber cX3_needNumber 2 none, Cond.classLink RX3 206 "java/lang/IndexOutOfBoundsException", Cond.initialized "java/lang/IndexOutOfBoundsException", Cond.methodLink RX3 156 yX3_faultOf, Cond.instanceMethod yX3_faultOf, Cond.selects RX3 yX3_faultOf yX3_faultOf, Cond.code yX3_faultOf cX3_faultOf 3 (some .int), Cond.methodLink RX3 202 yX3_failsRule, Cond.instanceMethod yX3_failsRule, Cond.selects RX3 yX3_failsRule yX3_failsRule, Cond.code yX3_failsRule cX3_failsRule 2 (some .boolean), Cond.fieldLink RX3 29 "Grievancehall" "acts" "[LGrievancehall$Act;", Cond.fieldLink RX3 199 "Grievancehall$Act" "measure" "I", Cond.fieldLink RX3 24 "Grievancehall" "limits" "LGrievancehall$Changes;", Cond.fieldLink RX3 196 "Grievancehall$Act" "kind" "I"]
def wsL_fault_r2 : List Cond := [Cond.fieldLink RX3 242 "Grievancehall$Act" "day" "I", Cond.methodLink RX3 71 yX1_valueOn, Cond.instanceMethod yX1_valueOn, Cond.selects RX1 yX1_valueOn yX1_valueOn, Cond.initialized RX1, Cond.code yX1_valueOn cX1_valueOn 5 (some .int), Cond.fieldLink RX1 21 "Grievancehall$Changes" "count" "I", Cond.fieldLink RX1 9 "Grievancehall$Changes" "things" "[I", Cond.fieldLink RX1 15 "Grievancehall$Changes" "days" "[I", Cond.fieldLink RX1 18 "Grievancehall$Changes" "values" "[I", Cond.methodLink RX3 248 yX3_isUnequal, Cond.instanceMethod yX3_isUnequal, Cond.selects RX3 yX3_isUnequal yX3_isUnequal, Cond.code yX3_isUnequal cX3_isUnequal 4 (some .boolean), Cond.methodLink RX3 190 yX3_countLikes, Cond.instanceMethod yX3_countLikes, Cond.selects RX3 yX3_countLikes yX3_countLikes, Cond.code yX3_countLikes cX3_countLikes 4 (some .int), Cond.methodLink RX3 164 yX3_isLike, Cond.instanceMethod yX3_isLike, Cond.selects RX3 yX3_isLike yX3_isLike, Cond.code yX3_isLike cX3_isLike 3 (some .boolean), Cond.fieldLink RX3 144 "Grievancehall$Act" "owner" "I", Cond.methodLink RX3 245 yX3_sumOfLikes]
def wsL_fault_r3 : List Cond := [Cond.instanceMethod yX3_sumOfLikes, Cond.selects RX3 yX3_sumOfLikes yX3_sumOfLikes, Cond.code yX3_sumOfLikes cX3_sumOfLikes 4 (some .int)]
def wsL_fault : List Cond := .codeWith yL_fault cL_fault 4 (some .int) [(0, 9, 12, 21)] :: ((wsL_fault_r1 ++ (wsL_fault_r2 ++ wsL_fault_r3)) ++ wsX30 ++ wsX00 ++ wsX10 ++ (vx_atS RX3 210 "java/lang/IndexOutOfBoundsException" ["java/lang/RuntimeException", "java/lang/Exception"]).filter goodWord)
def wsL_likes : List Cond := .codeWith yL_likes cL_likes 4 (some .int) [(0, 9, 12, 21)] :: ([.classLink RL 21 "java/lang/IndexOutOfBoundsException", .methodLink RL 82 yX3_likes, .instanceMethod yX3_likes, .selects RX3 yX3_likes yX3_likes, .initialized RX3, .code yX3_likes cX3_likes 2 (some .int), .fieldLink RX3 86 "Grievancehall" "actCount" "I", .methodLink RX3 60 yX3_needNumber, .static yX3_needNumber, .code yX3_needNumber cX3_needNumber 2 none, .classLink RX3 206 "java/lang/IndexOutOfBoundsException", .initialized "java/lang/IndexOutOfBoundsException", .methodLink RX3 190 yX3_countLikes, .instanceMethod yX3_countLikes, .selects RX3 yX3_countLikes yX3_countLikes, .code yX3_countLikes cX3_countLikes 4 (some .int), .methodLink RX3 164 yX3_isLike, .instanceMethod yX3_isLike, .selects RX3 yX3_isLike yX3_isLike, .code yX3_isLike cX3_isLike 3 (some .boolean), .fieldLink RX3 29 "Grievancehall" "acts" "[LGrievancehall$Act;", .fieldLink RX3 196 "Grievancehall$Act" "kind" "I", .fieldLink RX3 144 "Grievancehall$Act" "owner" "I"] ++ wsX30 ++ wsX00 ++ (vx_atS RX3 210 "java/lang/IndexOutOfBoundsException" ["java/lang/RuntimeException", "java/lang/Exception"]).filter goodWord)
def wsL_remedied : List Cond := .codeWith yL_remedied cL_remedied 4 (some .int) [(0, 9, 12, 21)] :: ([.classLink RL 21 "java/lang/IndexOutOfBoundsException", .methodLink RL 85 yX3_remedied, .instanceMethod yX3_remedied, .selects RX3 yX3_remedied yX3_remedied, .initialized RX3, .code yX3_remedied cX3_remedied 2 (some .int), .fieldLink RX3 86 "Grievancehall" "actCount" "I", .fieldLink RX3 29 "Grievancehall" "acts" "[LGrievancehall$Act;", .fieldLink RX3 193 "Grievancehall$Act" "remedySum" "I", .methodLink RX3 60 yX3_needNumber, .static yX3_needNumber, .code yX3_needNumber cX3_needNumber 2 none, .classLink RX3 206 "java/lang/IndexOutOfBoundsException", .initialized "java/lang/IndexOutOfBoundsException"] ++ wsX30 ++ wsX00 ++ (vx_atS RX3 210 "java/lang/IndexOutOfBoundsException" ["java/lang/RuntimeException", "java/lang/Exception"]).filter goodWord)
def wsL_gains_r1 : List Cond := [Cond.classLink RL 21 "java/lang/IndexOutOfBoundsException", Cond.classLink RL 13 "java/lang/IllegalArgumentException", Cond.methodLink RL 88 yX3_gains, Cond.instanceMethod yX3_gains, Cond.selects RX3 yX3_gains yX3_gains, Cond.initialized RX3, Cond.code yX3_gains cX3_gains 7 (some .int), Cond.fieldLink RX3 86 "Grievancehall" "actCount" "I", Cond.fieldLink RX3 29 "Grievancehall" "acts" "[LGrievancehall$Act;", Cond.fieldLink RX3 196 "Grievancehall$Act" "kind" "I", Cond.fieldLink RX3 199 "Grievancehall$Act" "measure" "I", Cond.methodLink RX3 60 yX3_needNumber, Cond.static yX3_needNumber, Cond.code yX3_needNumber cX3_needNumber 2 none, Cond.classLink RX3 206 "java/lang/IndexOutOfBoundsException", Cond.initialized "java/lang/IndexOutOfBoundsException", Cond.methodLink RX3 79 yX3_needRange, Cond.static yX3_needRange, Cond.code yX3_needRange cX3_needRange 3 none, Cond.classLink RX3 41 "java/lang/IllegalArgumentException", Cond.initialized "java/lang/IllegalArgumentException", Cond.methodLink RX3 202 yX3_failsRule, Cond.instanceMethod yX3_failsRule, Cond.selects RX3 yX3_failsRule yX3_failsRule]
def wsL_gains_r2 : List Cond := [Cond.code yX3_failsRule cX3_failsRule 2 (some .boolean), Cond.fieldLink RX3 24 "Grievancehall" "limits" "LGrievancehall$Changes;", Cond.fieldLink RX3 242 "Grievancehall$Act" "day" "I", Cond.methodLink RX3 71 yX1_valueOn, Cond.instanceMethod yX1_valueOn, Cond.selects RX1 yX1_valueOn yX1_valueOn, Cond.initialized RX1, Cond.code yX1_valueOn cX1_valueOn 5 (some .int), Cond.fieldLink RX1 21 "Grievancehall$Changes" "count" "I", Cond.fieldLink RX1 9 "Grievancehall$Changes" "things" "[I", Cond.fieldLink RX1 15 "Grievancehall$Changes" "days" "[I", Cond.fieldLink RX1 18 "Grievancehall$Changes" "values" "[I"]
def wsL_gains : List Cond := .codeWith yL_gains cL_gains 5 (some .int) [(0, 10, 13, 21), (0, 10, 17, 13)] :: ((wsL_gains_r1 ++ wsL_gains_r2) ++ wsX30 ++ wsX00 ++ wsX10 ++ (vx_atS RX3 210 "java/lang/IndexOutOfBoundsException" ["java/lang/RuntimeException", "java/lang/Exception"]).filter goodWord ++ (vx_atS RX3 45 "java/lang/IllegalArgumentException" ["java/lang/RuntimeException", "java/lang/Exception"]).filter goodWord)
def wsL_law0_r1 : List Cond := [Cond.classLink RL 8 RX3, Cond.instantiable RX3 11, Cond.initialized RX3, Cond.classLink RL 92 RX4, Cond.instantiable RX4 27, Cond.initialized RX4, Cond.arrayClass .long, Cond.methodLink RL 91 yX3_init, Cond.instanceMethod yX3_init, Cond.code yX3_init cX3_init 2 none, Cond.methodLink RX3 1 objectInit, Cond.instanceMethod objectInit, Cond.code objectInit ⟨#[0xb1]⟩ 1 none, Cond.arrayClass .char, Cond.fieldLink RX3 9 "Grievancehall" "typed" "[C", Cond.arrayClass .int, Cond.fieldLink RX3 13 "Grievancehall" "aboveOffice" "[I", Cond.classLink RX3 17 RX1, Cond.instantiable RX1 4, Cond.initialized RX1, Cond.fieldLink RX3 20 "Grievancehall" "delegations" "LGrievancehall$Changes;", Cond.fieldLink RX3 24 "Grievancehall" "limits" "LGrievancehall$Changes;", Cond.classLink RX3 27 RX0, Cond.fieldLink RX3 29 "Grievancehall" "acts" "[LGrievancehall$Act;"]
def wsL_law0_r2 : List Cond := [Cond.instantiable RX0 9, Cond.initialized RX0, Cond.classLink RX3 34 RX2, Cond.fieldLink RX3 36 "Grievancehall" "complaints" "[LGrievancehall$Complaint;", Cond.instantiable RX2 8, Cond.initialized RX2, Cond.methodLink RX3 19 yX1_init, Cond.instanceMethod yX1_init, Cond.code yX1_init cX1_init 1 none, Cond.methodLink RX1 3 objectInit, Cond.fieldLink RX1 9 "Grievancehall$Changes" "things" "[I", Cond.fieldLink RX1 15 "Grievancehall$Changes" "days" "[I", Cond.fieldLink RX1 18 "Grievancehall$Changes" "values" "[I", Cond.methodLink RX3 33 yX0_init, Cond.instanceMethod yX0_init, Cond.code yX0_init cX0_init 2 none, Cond.methodLink RX0 3 objectInit, Cond.fieldLink RX0 9 "Grievancehall$Act" "pleaDays" "[I", Cond.fieldLink RX0 15 "Grievancehall$Act" "remedySum" "I", Cond.methodLink RX3 40 yX2_init, Cond.instanceMethod yX2_init, Cond.code yX2_init cX2_init 1 none, Cond.methodLink RX2 3 objectInit, Cond.methodLink RL 94 yX4_init]
def wsL_law0_r3 : List Cond := [Cond.instanceMethod yX4_init, Cond.code yX4_init cX4_init 2 none, Cond.methodLink RX4 1 objectInit, Cond.fieldLink RX4 7 "GrievancehallModel" "word" "[I", Cond.fieldLink RX4 13 "GrievancehallModel" "above" "[I", Cond.constant RX4 16 (50010), Cond.fieldLink RX4 17 "GrievancehallModel" "actsFor" "[I", Cond.fieldLink RX4 20 "GrievancehallModel" "limits" "[I", Cond.fieldLink RX4 23 "GrievancehallModel" "whoseAct" "[I", Cond.fieldLink RX4 26 "GrievancehallModel" "kind" "[I", Cond.fieldLink RX4 29 "GrievancehallModel" "told" "[I", Cond.fieldLink RX4 32 "GrievancehallModel" "measure" "[I", Cond.fieldLink RX4 35 "GrievancehallModel" "harm" "[I", Cond.arrayClass .boolean, Cond.fieldLink RX4 38 "GrievancehallModel" "isInCourt" "[Z", Cond.fieldLink RX4 42 "GrievancehallModel" "isWaived" "[Z", Cond.fieldLink RX4 45 "GrievancehallModel" "remedy" "[I", Cond.fieldLink RX4 48 "GrievancehallModel" "pleaded" "[I", Cond.fieldLink RX4 51 "GrievancehallModel" "about" "[I", Cond.fieldLink RX4 54 "GrievancehallModel" "state" "[I", Cond.fieldLink RX4 57 "GrievancehallModel" "left" "[I", Cond.fieldLink RX4 60 "GrievancehallModel" "people" "[I", Cond.fieldLink RX4 63 "GrievancehallModel" "asked" "[I", Cond.fieldLink RX4 66 "GrievancehallModel" "isAnswered" "[Z"]
def wsL_law0_r4 : List Cond := [Cond.fieldLink RX4 69 "GrievancehallModel" "isHeard" "[Z", Cond.fieldLink RX4 72 "GrievancehallModel" "finding" "[I", Cond.methodLink RL 95 yL_letter, Cond.static yL_letter, Cond.initialized RL, Cond.codeWith yL_letter cL_letter 4 (some .int) [(0, 9, 12, 13), (0, 9, 15, 15)], Cond.classLink RL 13 "java/lang/IllegalArgumentException", Cond.classLink RL 15 "java/lang/IllegalStateException", Cond.methodLink RL 7 yX3_letter, Cond.instanceMethod yX3_letter, Cond.selects RX3 yX3_letter yX3_letter, Cond.code yX3_letter cX3_letter 2 (some .int), Cond.classLink RX3 41 "java/lang/IllegalArgumentException", Cond.initialized "java/lang/IllegalArgumentException", Cond.classLink RX3 52 "java/lang/IllegalStateException", Cond.initialized "java/lang/IllegalStateException", Cond.fieldLink RX3 48 "Grievancehall" "typedCount" "I", Cond.methodLink RL 100 yX4_letter, Cond.instanceMethod yX4_letter, Cond.selects RX4 yX4_letter yX4_letter, Cond.code yX4_letter cX4_letter 2 (some .int), Cond.fieldLink RX4 96 "GrievancehallModel" "letters" "I", Cond.methodLink RX4 82 yX4_in, Cond.static yX4_in]
def wsL_law0_r5 : List Cond := [Cond.code yX4_in cX4_in 3 (some .boolean), Cond.methodLink RX4 92 yX4_asks, Cond.instanceMethod yX4_asks, Cond.selects RX4 yX4_asks yX4_asks, Cond.code yX4_asks cX4_asks 2 (some .boolean), Cond.fieldLink RX4 75 "GrievancehallModel" "thrown" "I", Cond.methodLink RX4 99 yX4_fails, Cond.instanceMethod yX4_fails, Cond.selects RX4 yX4_fails yX4_fails, Cond.code yX4_fails cX4_fails 2 (some .int), Cond.methodLink RL 101 yX4_thrown, Cond.instanceMethod yX4_thrown, Cond.selects RX4 yX4_thrown yX4_thrown, Cond.code yX4_thrown cX4_thrown 1 (some .int), Cond.methodLink RL 105 yL_office, Cond.static yL_office, Cond.codeWith yL_office cL_office 4 (some .int) [(0, 9, 12, 21), (0, 9, 15, 15)], Cond.classLink RL 21 "java/lang/IndexOutOfBoundsException", Cond.methodLink RL 17 yX3_office, Cond.instanceMethod yX3_office, Cond.selects RX3 yX3_office yX3_office, Cond.code yX3_office cX3_office 3 (some .int), Cond.fieldLink RX3 57 "Grievancehall" "officeCount" "I", Cond.methodLink RX3 60 yX3_needNumber]
def wsL_law0_r6 : List Cond := [Cond.static yX3_needNumber, Cond.code yX3_needNumber cX3_needNumber 2 none, Cond.classLink RX3 206 "java/lang/IndexOutOfBoundsException", Cond.initialized "java/lang/IndexOutOfBoundsException", Cond.methodLink RL 108 yX4_office, Cond.instanceMethod yX4_office, Cond.selects RX4 yX4_office yX4_office, Cond.code yX4_office cX4_office 2 (some .int), Cond.fieldLink RX4 79 "GrievancehallModel" "offices" "I", Cond.methodLink RX4 103 yX4_isOffice, Cond.instanceMethod yX4_isOffice, Cond.selects RX4 yX4_isOffice yX4_isOffice, Cond.code yX4_isOffice cX4_isOffice 2 (some .boolean), Cond.methodLink RL 109 yL_delegate, Cond.static yL_delegate, Cond.codeWith yL_delegate cL_delegate 5 (some .int) [(0, 10, 13, 21), (0, 10, 17, 13)], Cond.methodLink RL 23 yX3_delegate, Cond.instanceMethod yX3_delegate, Cond.selects RX3 yX3_delegate yX3_delegate, Cond.code yX3_delegate cX3_delegate 4 (some .int), Cond.fieldLink RX3 68 "Grievancehall" "today" "I", Cond.methodLink RX3 71 yX1_valueOn, Cond.instanceMethod yX1_valueOn, Cond.selects RX1 yX1_valueOn yX1_valueOn]
def wsL_law0_r7 : List Cond := [Cond.code yX1_valueOn cX1_valueOn 5 (some .int), Cond.fieldLink RX1 21 "Grievancehall$Changes" "count" "I", Cond.methodLink RX3 75 yX1_tell, Cond.instanceMethod yX1_tell, Cond.selects RX1 yX1_tell yX1_tell, Cond.code yX1_tell cX1_tell 4 none, Cond.methodLink RL 112 yX4_delegate, Cond.instanceMethod yX4_delegate, Cond.selects RX4 yX4_delegate yX4_delegate, Cond.code yX4_delegate cX4_delegate 5 (some .int), Cond.fieldLink RX4 107 "GrievancehallModel" "day" "I", Cond.methodLink RL 113 yL_whose, Cond.static yL_whose, Cond.codeWith yL_whose cL_whose 5 (some .int) [(0, 10, 13, 21), (0, 10, 17, 13)], Cond.methodLink RL 27 yX3_whose, Cond.instanceMethod yX3_whose, Cond.selects RX3 yX3_whose yX3_whose, Cond.code yX3_whose cX3_whose 3 (some .int), Cond.methodLink RX3 79 yX3_needRange, Cond.static yX3_needRange, Cond.code yX3_needRange cX3_needRange 3 none, Cond.methodLink RX3 82 yX3_ownerOn, Cond.instanceMethod yX3_ownerOn, Cond.selects RX3 yX3_ownerOn yX3_ownerOn]
def wsL_law0_r8 : List Cond := [Cond.code yX3_ownerOn cX3_ownerOn 6 (some .int), Cond.methodLink RL 115 yX4_whose, Cond.instanceMethod yX4_whose, Cond.selects RX4 yX4_whose yX4_whose, Cond.code yX4_whose cX4_whose 3 (some .int), Cond.methodLink RX4 110 yX4_whoseOn, Cond.instanceMethod yX4_whoseOn, Cond.selects RX4 yX4_whoseOn yX4_whoseOn, Cond.code yX4_whoseOn cX4_whoseOn 5 (some .int), Cond.methodLink RL 116 yL_limit, Cond.static yL_limit, Cond.codeWith yL_limit cL_limit 5 (some .int) [(0, 10, 13, 21), (0, 10, 17, 13)], Cond.methodLink RL 30 yX3_limit, Cond.instanceMethod yX3_limit, Cond.selects RX3 yX3_limit yX3_limit, Cond.code yX3_limit cX3_limit 4 (some .int), Cond.methodLink RL 118 yX4_limit, Cond.instanceMethod yX4_limit, Cond.selects RX4 yX4_limit yX4_limit, Cond.code yX4_limit cX4_limit 5 (some .int), Cond.methodLink RX4 114 yX4_isKind, Cond.static yX4_isKind, Cond.code yX4_isKind cX4_isKind 1 (some .boolean), Cond.methodLink RL 119 yL_act]
def wsL_law0_r9 : List Cond := [Cond.static yL_act, Cond.codeWith yL_act cL_act 6 (some .int) [(0, 12, 15, 21), (0, 12, 19, 13), (0, 12, 23, 15)], Cond.methodLink RL 33 yX3_act, Cond.instanceMethod yX3_act, Cond.selects RX3 yX3_act yX3_act, Cond.code yX3_act cX3_act 6 (some .int), Cond.fieldLink RX3 86 "Grievancehall" "actCount" "I", Cond.methodLink RX3 91 yX3_typedKind, Cond.instanceMethod yX3_typedKind, Cond.selects RX3 yX3_typedKind yX3_typedKind, Cond.code yX3_typedKind cX3_typedKind 2 (some .int), Cond.methodLink RX3 221 yX3_wordOf, Cond.static yX3_wordOf, Cond.code yX3_wordOf cX3_wordOf 1 (some (.object "java/lang/String")), Cond.methodLink RX3 225 yX3_isTyped, Cond.instanceMethod yX3_isTyped, Cond.selects RX3 yX3_isTyped yX3_isTyped, Cond.code yX3_isTyped cX3_isTyped 3 (some .boolean), Cond.methodLink RX3 229 yJ0_length_8abf5, Cond.instanceMethod yJ0_length_8abf5, Cond.selects RJ0 yJ0_length_8abf5 yJ0_length_8abf5, Cond.initialized RJ0, Cond.code yJ0_length_8abf5 cJ0_length_8abf5 1 (some .int), Cond.fieldLink RJ0 9 "java/lang/String" "value" "[B"]
def wsL_law0_r10 : List Cond := [Cond.methodLink RJ0 335 yJ0_coder_7d493, Cond.instanceMethod yJ0_coder_7d493, Cond.selects RJ0 yJ0_coder_7d493 yJ0_coder_7d493, Cond.code yJ0_coder_7d493 cJ0_coder_7d493 1 (some .byte), Cond.fieldLink RJ0 38 "java/lang/String" "COMPACT_STRINGS" "Z", Cond.fieldLink RJ0 15 "java/lang/String" "coder" "B", Cond.methodLink RX3 234 yJ0_charAt_5068e, Cond.instanceMethod yJ0_charAt_5068e, Cond.selects RJ0 yJ0_charAt_5068e yJ0_charAt_5068e, Cond.code yJ0_charAt_5068e cJ0_charAt_5068e 2 (some .char), Cond.methodLink RJ0 492 yJ0_isLatin1_aae02, Cond.instanceMethod yJ0_isLatin1_aae02, Cond.selects RJ0 yJ0_isLatin1_aae02 yJ0_isLatin1_aae02, Cond.code yJ0_isLatin1_aae02 cJ0_isLatin1_aae02 1 (some .boolean), Cond.methodLink RJ0 495 yJ1_charAt_3b067, Cond.static yJ1_charAt_3b067, Cond.initialized RJ1, Cond.code yJ1_charAt_3b067 cJ1_charAt_3b067 2 (some .char), Cond.methodLink RJ1 9 yJ0_checkIndex_df160, Cond.static yJ0_checkIndex_df160, Cond.code yJ0_checkIndex_df160 cJ0_checkIndex_df160 2 none, Cond.fieldLink RJ0 1053 "jdk/internal/util/Preconditions" "SIOOBE_FORMATTER" "Ljava/util/function/BiFunction;", Cond.methodLink RJ0 1059 yJ3_checkIndex_8e157, Cond.static yJ3_checkIndex_8e157]
def wsL_law0_r11 : List Cond := [Cond.initialized RJ3, Cond.code yJ3_checkIndex_8e157 cJ3_checkIndex_8e157 3 (some .int), Cond.methodLink RJ0 498 yJ2_charAt_3b067, Cond.static yJ2_charAt_3b067, Cond.initialized RJ2, Cond.code yJ2_charAt_3b067 cJ2_charAt_3b067 2 (some .char), Cond.methodLink RJ2 67 yJ2_checkIndex_2214a, Cond.static yJ2_checkIndex_2214a, Cond.code yJ2_checkIndex_2214a cJ2_checkIndex_2214a 2 none, Cond.methodLink RJ2 48 yJ2_length_9d52b, Cond.static yJ2_length_9d52b, Cond.code yJ2_length_9d52b cJ2_length_9d52b 1 (some .int), Cond.methodLink RJ2 414 yJ0_checkIndex_df160, Cond.methodLink RJ2 71 yJ2_getChar_3b067, Cond.static yJ2_getChar_3b067, Cond.code yJ2_getChar_3b067 cJ2_getChar_3b067 2 (some .char), Cond.fieldLink RJ2 44 "java/lang/StringUTF16" "$assertionsDisabled" "Z", Cond.fieldLink RJ2 59 "java/lang/StringUTF16" "HI_BYTE_SHIFT" "I", Cond.fieldLink RJ2 63 "java/lang/StringUTF16" "LO_BYTE_SHIFT" "I", Cond.methodLink RX3 95 yX0_begin, Cond.instanceMethod yX0_begin, Cond.selects RX0 yX0_begin yX0_begin, Cond.code yX0_begin cX0_begin 6 none, Cond.fieldLink RX0 19 "Grievancehall$Act" "owner" "I"]
def wsL_law0_r12 : List Cond := [Cond.fieldLink RX0 22 "Grievancehall$Act" "kind" "I", Cond.fieldLink RX0 25 "Grievancehall$Act" "day" "I", Cond.fieldLink RX0 28 "Grievancehall$Act" "measure" "I", Cond.fieldLink RX0 31 "Grievancehall$Act" "harm" "I", Cond.methodLink RL 122 yX4_act, Cond.instanceMethod yX4_act, Cond.selects RX4 yX4_act yX4_act, Cond.code yX4_act cX4_act 6 (some .int), Cond.fieldLink RX4 86 "GrievancehallModel" "acts" "I", Cond.methodLink RX4 117 yX4_isTyped, Cond.instanceMethod yX4_isTyped, Cond.selects RX4 yX4_isTyped yX4_isTyped, Cond.code yX4_isTyped cX4_isTyped 2 (some .boolean), Cond.methodLink RL 123 yL_court, Cond.static yL_court, Cond.codeWith yL_court cL_court 5 (some .int) [(0, 17, 20, 21)], Cond.methodLink RL 37 yX3_court, Cond.instanceMethod yX3_court, Cond.selects RX3 yX3_court yX3_court, Cond.code yX3_court cX3_court 4 (some .boolean), Cond.fieldLink RX3 99 "Grievancehall$Act" "inCourt" "Z", Cond.methodLink RL 126 yX4_court, Cond.instanceMethod yX4_court, Cond.selects RX4 yX4_court yX4_court]
def wsL_law0_r13 : List Cond := [Cond.code yX4_court cX4_court 4 (some .boolean), Cond.methodLink RX4 120 yX4_isAct, Cond.instanceMethod yX4_isAct, Cond.selects RX4 yX4_isAct yX4_isAct, Cond.code yX4_isAct cX4_isAct 2 (some .boolean), Cond.methodLink RL 127 yL_waive, Cond.static yL_waive, Cond.codeWith yL_waive cL_waive 5 (some .int) [(0, 17, 20, 21)], Cond.methodLink RL 41 yX3_waive, Cond.instanceMethod yX3_waive, Cond.selects RX3 yX3_waive yX3_waive, Cond.code yX3_waive cX3_waive 4 (some .boolean), Cond.fieldLink RX3 103 "Grievancehall$Act" "timeWaived" "Z", Cond.methodLink RL 129 yX4_waive, Cond.instanceMethod yX4_waive, Cond.selects RX4 yX4_waive yX4_waive, Cond.code yX4_waive cX4_waive 4 (some .boolean), Cond.methodLink RL 130 yL_plea, Cond.static yL_plea, Cond.codeWith yL_plea cL_plea 4 (some .int) [(0, 6, 9, 21), (0, 6, 12, 15)], Cond.methodLink RL 44 yX3_plea, Cond.instanceMethod yX3_plea, Cond.selects RX3 yX3_plea yX3_plea, Cond.code yX3_plea cX3_plea 3 none]
def wsL_law0_r14 : List Cond := [Cond.fieldLink RX3 106 "Grievancehall$Act" "pleaDays" "[I", Cond.methodLink RL 133 yX4_plea, Cond.instanceMethod yX4_plea, Cond.selects RX4 yX4_plea yX4_plea, Cond.code yX4_plea cX4_plea 3 none, Cond.methodLink RX4 123 yX4_isThere, Cond.instanceMethod yX4_isThere, Cond.selects RX4 yX4_isThere yX4_isThere, Cond.code yX4_isThere cX4_isThere 3 (some .boolean), Cond.methodLink RL 134 yL_bar, Cond.static yL_bar, Cond.codeWith yL_bar cL_bar 5 (some .int) [(0, 10, 13, 21)], Cond.methodLink RL 48 yX3_bar, Cond.instanceMethod yX3_bar, Cond.selects RX3 yX3_bar yX3_bar, Cond.code yX3_bar cX3_bar 3 (some .int), Cond.methodLink RX3 111 yX0_barOn, Cond.instanceMethod yX0_barOn, Cond.selects RX0 yX0_barOn yX0_barOn, Cond.code yX0_barOn cX0_barOn 3 (some .int), Cond.fieldLink RX0 34 "Grievancehall$Act" "inCourt" "Z", Cond.fieldLink RX0 38 "Grievancehall$Act" "timeWaived" "Z", Cond.methodLink RL 136 yX4_bar, Cond.instanceMethod yX4_bar]
def wsL_law0_r15 : List Cond := [Cond.selects RX4 yX4_bar yX4_bar, Cond.code yX4_bar cX4_bar 3 (some .int), Cond.methodLink RX4 127 yX4_barOf, Cond.instanceMethod yX4_barOf, Cond.selects RX4 yX4_barOf yX4_barOf, Cond.code yX4_barOf cX4_barOf 4 (some .int), Cond.methodLink RL 137 yL_complain, Cond.static yL_complain, Cond.codeWith yL_complain cL_complain 5 (some .int) [(0, 10, 13, 21), (0, 10, 17, 15)], Cond.methodLink RL 51 yX3_complain, Cond.instanceMethod yX3_complain, Cond.selects RX3 yX3_complain yX3_complain, Cond.code yX3_complain cX3_complain 4 (some .int), Cond.methodLink RX3 116 yX3_complaintToJoin, Cond.instanceMethod yX3_complaintToJoin, Cond.selects RX3 yX3_complaintToJoin yX3_complaintToJoin, Cond.code yX3_complaintToJoin cX3_complaintToJoin 3 (some .int), Cond.fieldLink RX3 127 "Grievancehall" "complaintCount" "I", Cond.fieldLink RX3 141 "Grievancehall$Complaint" "actNumber" "I", Cond.fieldLink RX3 130 "Grievancehall$Complaint" "state" "I", Cond.methodLink RX3 120 yX3_beginComplaint, Cond.instanceMethod yX3_beginComplaint, Cond.selects RX3 yX3_beginComplaint yX3_beginComplaint, Cond.code yX3_beginComplaint cX3_beginComplaint 3 (some .int)]
def wsL_law0_r16 : List Cond := [Cond.methodLink RX3 240 yX2_begin, Cond.instanceMethod yX2_begin, Cond.selects RX2 yX2_begin yX2_begin, Cond.code yX2_begin cX2_begin 2 none, Cond.fieldLink RX2 9 "Grievancehall$Complaint" "actNumber" "I", Cond.fieldLink RX2 15 "Grievancehall$Complaint" "state" "I", Cond.fieldLink RX2 18 "Grievancehall$Complaint" "daysLeft" "I", Cond.fieldLink RX2 21 "Grievancehall$Complaint" "file" "I", Cond.fieldLink RX2 24 "Grievancehall$Complaint" "finding" "I", Cond.methodLink RX3 123 yX2_join, Cond.instanceMethod yX2_join, Cond.selects RX2 yX2_join yX2_join, Cond.code yX2_join cX2_join 2 none, Cond.fieldLink RX2 27 "Grievancehall$Complaint" "people" "I", Cond.methodLink RL 139 yX4_complain, Cond.instanceMethod yX4_complain, Cond.selects RX4 yX4_complain yX4_complain, Cond.code yX4_complain cX4_complain 4 (some .int), Cond.fieldLink RX4 89 "GrievancehallModel" "complaints" "I", Cond.methodLink RX4 130 yX4_complaintOf, Cond.instanceMethod yX4_complaintOf, Cond.selects RX4 yX4_complaintOf yX4_complaintOf, Cond.code yX4_complaintOf cX4_complaintOf 4 (some .int), Cond.methodLink RL 140 yL_ask]
def wsL_law0_r17 : List Cond := [Cond.static yL_ask, Cond.codeWith yL_ask cL_ask 4 (some .int) [(0, 9, 12, 21), (0, 9, 15, 15)], Cond.methodLink RL 54 yX3_ask, Cond.instanceMethod yX3_ask, Cond.selects RX3 yX3_ask yX3_ask, Cond.code yX3_ask cX3_ask 3 (some .int), Cond.fieldLink RX3 133 "Grievancehall$Complaint" "file" "I", Cond.fieldLink RX3 138 "Grievancehall$Complaint" "askedDay" "I", Cond.fieldLink RX3 144 "Grievancehall$Act" "owner" "I", Cond.methodLink RL 142 yX4_ask, Cond.instanceMethod yX4_ask, Cond.selects RX4 yX4_ask yX4_ask, Cond.code yX4_ask cX4_ask 2 (some .int), Cond.methodLink RX4 133 yX4_isComplaint, Cond.instanceMethod yX4_isComplaint, Cond.selects RX4 yX4_isComplaint yX4_isComplaint, Cond.code yX4_isComplaint cX4_isComplaint 2 (some .boolean), Cond.methodLink RL 143 yL_answer, Cond.static yL_answer, Cond.codeWith yL_answer cL_answer 4 (some .int) [(0, 9, 12, 21), (0, 9, 15, 15)], Cond.methodLink RL 57 yX3_answer, Cond.instanceMethod yX3_answer, Cond.selects RX3 yX3_answer yX3_answer, Cond.code yX3_answer cX3_answer 3 (some .int)]
def wsL_law0_r18 : List Cond := [Cond.methodLink RL 145 yX4_answer, Cond.instanceMethod yX4_answer, Cond.selects RX4 yX4_answer yX4_answer, Cond.code yX4_answer cX4_answer 2 (some .int), Cond.methodLink RX4 136 yX4_isOwed, Cond.instanceMethod yX4_isOwed, Cond.selects RX4 yX4_isOwed yX4_isOwed, Cond.code yX4_isOwed cX4_isOwed 2 (some .boolean), Cond.methodLink RL 146 yL_hear, Cond.static yL_hear, Cond.codeWith yL_hear cL_hear 3 (some .int) [(0, 5, 8, 21), (0, 5, 11, 15)], Cond.methodLink RL 60 yX3_hear, Cond.instanceMethod yX3_hear, Cond.selects RX3 yX3_hear yX3_hear, Cond.code yX3_hear cX3_hear 3 none, Cond.fieldLink RX3 149 "Grievancehall$Complaint" "officerHeard" "Z", Cond.methodLink RL 149 yX4_hear, Cond.instanceMethod yX4_hear, Cond.selects RX4 yX4_hear yX4_hear, Cond.code yX4_hear cX4_hear 2 none, Cond.methodLink RL 150 yL_find, Cond.static yL_find, Cond.codeWith yL_find cL_find 4 (some .int) [(0, 9, 12, 21), (0, 9, 15, 15)], Cond.methodLink RL 64 yX3_find]
def wsL_law0_r19 : List Cond := [Cond.instanceMethod yX3_find, Cond.selects RX3 yX3_find yX3_find, Cond.code yX3_find cX3_find 3 (some .int), Cond.fieldLink RX3 159 "Grievancehall$Complaint" "finding" "I", Cond.methodLink RX3 156 yX3_faultOf, Cond.instanceMethod yX3_faultOf, Cond.selects RX3 yX3_faultOf yX3_faultOf, Cond.code yX3_faultOf cX3_faultOf 3 (some .int), Cond.methodLink RX3 202 yX3_failsRule, Cond.instanceMethod yX3_failsRule, Cond.selects RX3 yX3_failsRule yX3_failsRule, Cond.code yX3_failsRule cX3_failsRule 2 (some .boolean), Cond.fieldLink RX3 199 "Grievancehall$Act" "measure" "I", Cond.fieldLink RX3 196 "Grievancehall$Act" "kind" "I", Cond.fieldLink RX3 242 "Grievancehall$Act" "day" "I", Cond.methodLink RX3 248 yX3_isUnequal, Cond.instanceMethod yX3_isUnequal, Cond.selects RX3 yX3_isUnequal yX3_isUnequal, Cond.code yX3_isUnequal cX3_isUnequal 4 (some .boolean), Cond.methodLink RX3 190 yX3_countLikes, Cond.instanceMethod yX3_countLikes, Cond.selects RX3 yX3_countLikes yX3_countLikes, Cond.code yX3_countLikes cX3_countLikes 4 (some .int), Cond.methodLink RX3 164 yX3_isLike]
def wsL_law0_r20 : List Cond := [Cond.instanceMethod yX3_isLike, Cond.selects RX3 yX3_isLike yX3_isLike, Cond.code yX3_isLike cX3_isLike 3 (some .boolean), Cond.methodLink RX3 245 yX3_sumOfLikes, Cond.instanceMethod yX3_sumOfLikes, Cond.selects RX3 yX3_sumOfLikes yX3_sumOfLikes, Cond.code yX3_sumOfLikes cX3_sumOfLikes 4 (some .int), Cond.methodLink RL 152 yX4_find, Cond.instanceMethod yX4_find, Cond.selects RX4 yX4_find yX4_find, Cond.code yX4_find cX4_find 2 (some .int), Cond.methodLink RX4 151 yX4_faultOf, Cond.instanceMethod yX4_faultOf, Cond.selects RX4 yX4_faultOf yX4_faultOf, Cond.code yX4_faultOf cX4_faultOf 2 (some .int), Cond.methodLink RX4 145 yX4_doesFail, Cond.instanceMethod yX4_doesFail, Cond.selects RX4 yX4_doesFail yX4_doesFail, Cond.code yX4_doesFail cX4_doesFail 2 (some .boolean), Cond.methodLink RX4 148 yX4_isUnequal, Cond.instanceMethod yX4_isUnequal, Cond.selects RX4 yX4_isUnequal yX4_isUnequal, Cond.code yX4_isUnequal cX4_isUnequal 5 (some .boolean), Cond.methodLink RX4 142 yX4_likesOf]
def wsL_law0_r21 : List Cond := [Cond.instanceMethod yX4_likesOf, Cond.selects RX4 yX4_likesOf yX4_likesOf, Cond.code yX4_likesOf cX4_likesOf 4 (some .int), Cond.methodLink RX4 139 yX4_areLike, Cond.instanceMethod yX4_areLike, Cond.selects RX4 yX4_areLike yX4_areLike, Cond.code yX4_areLike cX4_areLike 3 (some .boolean), Cond.methodLink RL 153 yL_remedy, Cond.static yL_remedy, Cond.codeWith yL_remedy cL_remedy 5 (some .int) [(0, 10, 13, 21), (0, 10, 17, 13), (0, 10, 21, 15)], Cond.methodLink RL 67 yX3_remedy, Cond.instanceMethod yX3_remedy, Cond.selects RX3 yX3_remedy yX3_remedy, Cond.code yX3_remedy cX3_remedy 6 (some .int), Cond.methodLink RX3 168 yX0_giveRemedy, Cond.instanceMethod yX0_giveRemedy, Cond.selects RX0 yX0_giveRemedy yX0_giveRemedy, Cond.code yX0_giveRemedy cX0_giveRemedy 2 none, Cond.methodLink RL 155 yX4_remedy, Cond.instanceMethod yX4_remedy, Cond.selects RX4 yX4_remedy yX4_remedy, Cond.code yX4_remedy cX4_remedy 6 (some .int), Cond.methodLink RL 156 yL_pass, Cond.static yL_pass]
def wsL_law0_r22 : List Cond := [Cond.codeWith yL_pass cL_pass 4 (some .int) [(0, 9, 12, 13), (0, 9, 15, 15)], Cond.methodLink RL 70 yX3_pass, Cond.instanceMethod yX3_pass, Cond.selects RX3 yX3_pass yX3_pass, Cond.code yX3_pass cX3_pass 3 (some .int), Cond.methodLink RX3 173 yX2_letDaysGoBy, Cond.instanceMethod yX2_letDaysGoBy, Cond.selects RX2 yX2_letDaysGoBy yX2_letDaysGoBy, Cond.code yX2_letDaysGoBy cX2_letDaysGoBy 2 none, Cond.methodLink RX2 30 Lib.Math.max.name, Cond.static Lib.Math.max.name, Cond.initialized "java/lang/Math", Cond.code Lib.Math.max.name Lib.Math.max.code 2 (some .int), Cond.methodLink RL 158 yX4_pass, Cond.instanceMethod yX4_pass, Cond.selects RX4 yX4_pass yX4_pass, Cond.code yX4_pass cX4_pass 4 (some .int), Cond.methodLink RL 159 yL_about, Cond.static yL_about, Cond.codeWith yL_about cL_about 5 (some .int) [(0, 10, 13, 21), (0, 10, 17, 13)], Cond.methodLink RL 73 yX3_about, Cond.instanceMethod yX3_about, Cond.selects RX3 yX3_about yX3_about, Cond.code yX3_about cX3_about 4 (some .int)]
def wsL_law0_r23 : List Cond := [Cond.fieldLink RX3 176 "Grievancehall$Complaint" "daysLeft" "I", Cond.fieldLink RX3 179 "Grievancehall$Complaint" "people" "I", Cond.methodLink RX3 182 yJ6_bitCount_0f7a4, Cond.static yJ6_bitCount_0f7a4, Cond.initialized RJ6, Cond.code yJ6_bitCount_0f7a4 cJ6_bitCount_0f7a4 1 (some .int), Cond.constant RJ6 265 (1431655765), Cond.constant RJ6 266 (858993459), Cond.constant RJ6 267 (252645135), Cond.methodLink RL 161 yX4_about, Cond.instanceMethod yX4_about, Cond.selects RX4 yX4_about yX4_about, Cond.code yX4_about cX4_about 3 (some .int), Cond.methodLink RX4 154 yX4_ones, Cond.static yX4_ones, Cond.code yX4_ones cX4_ones 3 (some .int), Cond.methodLink RL 162 yL_reminder, Cond.static yL_reminder, Cond.codeWith yL_reminder cL_reminder 4 (some .int) [(0, 9, 12, 21)], Cond.methodLink RL 76 yX3_reminder, Cond.instanceMethod yX3_reminder, Cond.selects RX3 yX3_reminder yX3_reminder, Cond.code yX3_reminder cX3_reminder 3 (some .int), Cond.methodLink RX3 187 yX3_climbFrom]
def wsL_law0_r24 : List Cond := [Cond.instanceMethod yX3_climbFrom, Cond.selects RX3 yX3_climbFrom yX3_climbFrom, Cond.code yX3_climbFrom cX3_climbFrom 5 (some .int), Cond.methodLink RL 164 yX4_reminder, Cond.instanceMethod yX4_reminder, Cond.selects RX4 yX4_reminder yX4_reminder, Cond.code yX4_reminder cX4_reminder 5 (some .int), Cond.methodLink RL 165 yL_fault, Cond.static yL_fault, Cond.codeWith yL_fault cL_fault 4 (some .int) [(0, 9, 12, 21)], Cond.methodLink RL 79 yX3_fault, Cond.instanceMethod yX3_fault, Cond.selects RX3 yX3_fault yX3_fault, Cond.code yX3_fault cX3_fault 2 (some .int), Cond.methodLink RL 167 yX4_fault, Cond.instanceMethod yX4_fault, Cond.selects RX4 yX4_fault yX4_fault, Cond.code yX4_fault cX4_fault 2 (some .int), Cond.methodLink RL 168 yL_likes, Cond.static yL_likes, Cond.codeWith yL_likes cL_likes 4 (some .int) [(0, 9, 12, 21)], Cond.methodLink RL 82 yX3_likes, Cond.instanceMethod yX3_likes, Cond.selects RX3 yX3_likes yX3_likes]
def wsL_law0_r25 : List Cond := [Cond.code yX3_likes cX3_likes 2 (some .int), Cond.methodLink RL 170 yX4_likes, Cond.instanceMethod yX4_likes, Cond.selects RX4 yX4_likes yX4_likes, Cond.code yX4_likes cX4_likes 2 (some .int), Cond.methodLink RL 171 yL_remedied, Cond.static yL_remedied, Cond.codeWith yL_remedied cL_remedied 4 (some .int) [(0, 9, 12, 21)], Cond.methodLink RL 85 yX3_remedied, Cond.instanceMethod yX3_remedied, Cond.selects RX3 yX3_remedied yX3_remedied, Cond.code yX3_remedied cX3_remedied 2 (some .int), Cond.fieldLink RX3 193 "Grievancehall$Act" "remedySum" "I", Cond.methodLink RL 173 yX4_remedied, Cond.instanceMethod yX4_remedied, Cond.selects RX4 yX4_remedied yX4_remedied, Cond.code yX4_remedied cX4_remedied 2 (some .int), Cond.methodLink RL 174 yL_gains, Cond.static yL_gains, Cond.codeWith yL_gains cL_gains 5 (some .int) [(0, 10, 13, 21), (0, 10, 17, 13)], Cond.methodLink RL 88 yX3_gains, Cond.instanceMethod yX3_gains, Cond.selects RX3 yX3_gains yX3_gains, Cond.code yX3_gains cX3_gains 7 (some .int)]
def wsL_law0_r26 : List Cond := [Cond.methodLink RL 176 yX4_gains, Cond.instanceMethod yX4_gains, Cond.selects RX4 yX4_gains yX4_gains, Cond.code yX4_gains cX4_gains 7 (some .int)]
def wsL_law0 : List Cond := (wsL_law0_r1 ++ (wsL_law0_r2 ++ (wsL_law0_r3 ++ (wsL_law0_r4 ++ (wsL_law0_r5 ++ (wsL_law0_r6 ++ (wsL_law0_r7 ++ (wsL_law0_r8 ++ (wsL_law0_r9 ++ (wsL_law0_r10 ++ (wsL_law0_r11 ++ (wsL_law0_r12 ++ (wsL_law0_r13 ++ (wsL_law0_r14 ++ (wsL_law0_r15 ++ (wsL_law0_r16 ++ (wsL_law0_r17 ++ (wsL_law0_r18 ++ (wsL_law0_r19 ++ (wsL_law0_r20 ++ (wsL_law0_r21 ++ (wsL_law0_r22 ++ (wsL_law0_r23 ++ (wsL_law0_r24 ++ (wsL_law0_r25 ++ wsL_law0_r26))))))))))))))))))))))))) ++ wsX30 ++ wsX40 ++ wsX10 ++ wsX00 ++ wsX20 ++ ([] : List Cond)
def wsL_law : List Cond := wsL_law0 ++ (vx_atS RX3 45 "java/lang/IllegalArgumentException" ["java/lang/RuntimeException", "java/lang/Exception"]).filter goodWord ++ (vx_atS RX3 56 "java/lang/IllegalStateException" ["java/lang/RuntimeException", "java/lang/Exception"]).filter goodWord ++ (vx_atS RX3 210 "java/lang/IndexOutOfBoundsException" ["java/lang/RuntimeException", "java/lang/Exception"]).filter goodWord
abbrev vwCl : List vw_C := [(RX0, TX0, 9), (RX1, TX1, 4), (RX2, TX2, 8), (RX3, TX3, 11), (RX4, TX4, 27)]
end
section
theorem dX0_init_0 : decode cX0_init 0 = .ok (.aload_n 0, 1) := by decide +kernel
theorem dX0_init_1 : decode cX0_init 1 = .ok (.invokespecial 3, 3) := by decide +kernel
theorem dX0_init_4 : decode cX0_init 4 = .ok (.aload_n 0, 1) := by decide +kernel
theorem dX0_init_5 : decode cX0_init 5 = .ok (.bipush 10, 2) := by decide +kernel
theorem dX0_init_7 : decode cX0_init 7 = .ok (.newarray .int, 2) := by decide +kernel
theorem dX0_init_9 : decode cX0_init 9 = .ok (.putfield 9, 3) := by decide +kernel
theorem dX0_init_12 : decode cX0_init 12 = .ok (.iconst 0, 1) := by decide +kernel
theorem dX0_init_13 : decode cX0_init 13 = .ok (.istore_n 1, 1) := by decide +kernel
theorem dX0_init_14 : decode cX0_init 14 = .ok (.iload_n 1, 1) := by decide +kernel
theorem dX0_init_15 : decode cX0_init 15 = .ok (.bipush 10, 2) := by decide +kernel
theorem dX0_init_17 : decode cX0_init 17 = .ok (.if_icmp .ge 16, 3) := by decide +kernel
theorem dX0_init_20 : decode cX0_init 20 = .ok (.aload_n 0, 1) := by decide +kernel
theorem dX0_init_21 : decode cX0_init 21 = .ok (.getfield 9, 3) := by decide +kernel
theorem dX0_init_24 : decode cX0_init 24 = .ok (.iload_n 1, 1) := by decide +kernel
theorem dX0_init_25 : decode cX0_init 25 = .ok (.iconst (-1), 1) := by decide +kernel
theorem dX0_init_26 : decode cX0_init 26 = .ok (.iastore, 1) := by decide +kernel
theorem dX0_init_27 : decode cX0_init 27 = .ok (.iinc 1 1, 3) := by decide +kernel
theorem dX0_init_30 : decode cX0_init 30 = .ok (.goto (-16), 3) := by decide +kernel
theorem dX0_init_33 : decode cX0_init 33 = .ok (.aload_n 0, 1) := by decide +kernel
theorem dX0_init_34 : decode cX0_init 34 = .ok (.iconst (-1), 1) := by decide +kernel
theorem dX0_init_35 : decode cX0_init 35 = .ok (.putfield 15, 3) := by decide +kernel
theorem dX0_init_38 : decode cX0_init 38 = .ok (.return_, 1) := by decide +kernel
theorem dX0_begin_0 : decode cX0_begin 0 = .ok (.aload_n 0, 1) := by decide +kernel
theorem dX0_begin_1 : decode cX0_begin 1 = .ok (.iload_n 1, 1) := by decide +kernel
theorem dX0_begin_2 : decode cX0_begin 2 = .ok (.putfield 19, 3) := by decide +kernel
theorem dX0_begin_5 : decode cX0_begin 5 = .ok (.aload_n 0, 1) := by decide +kernel
theorem dX0_begin_6 : decode cX0_begin 6 = .ok (.iload_n 2, 1) := by decide +kernel
theorem dX0_begin_7 : decode cX0_begin 7 = .ok (.putfield 22, 3) := by decide +kernel
theorem dX0_begin_10 : decode cX0_begin 10 = .ok (.aload_n 0, 1) := by decide +kernel
theorem dX0_begin_11 : decode cX0_begin 11 = .ok (.iload_n 3, 1) := by decide +kernel
theorem dX0_begin_12 : decode cX0_begin 12 = .ok (.putfield 25, 3) := by decide +kernel
theorem dX0_begin_15 : decode cX0_begin 15 = .ok (.aload_n 0, 1) := by decide +kernel
theorem dX0_begin_16 : decode cX0_begin 16 = .ok (.iload 4, 2) := by decide +kernel
theorem dX0_begin_18 : decode cX0_begin 18 = .ok (.putfield 28, 3) := by decide +kernel
theorem dX0_begin_21 : decode cX0_begin 21 = .ok (.aload_n 0, 1) := by decide +kernel
theorem dX0_begin_22 : decode cX0_begin 22 = .ok (.iload 5, 2) := by decide +kernel
theorem dX0_begin_24 : decode cX0_begin 24 = .ok (.putfield 31, 3) := by decide +kernel
theorem dX0_begin_27 : decode cX0_begin 27 = .ok (.return_, 1) := by decide +kernel
theorem dX0_barOn_0 : decode cX0_barOn 0 = .ok (.aload_n 0, 1) := by decide +kernel
theorem dX0_barOn_1 : decode cX0_barOn 1 = .ok (.getfield 9, 3) := by decide +kernel
theorem dX0_barOn_4 : decode cX0_barOn 4 = .ok (.iload_n 1, 1) := by decide +kernel
theorem dX0_barOn_5 : decode cX0_barOn 5 = .ok (.iaload, 1) := by decide +kernel
theorem dX0_barOn_6 : decode cX0_barOn 6 = .ok (.iconst (-1), 1) := by decide +kernel
theorem dX0_barOn_7 : decode cX0_barOn 7 = .ok (.if_icmp .eq 16, 3) := by decide +kernel
theorem dX0_barOn_10 : decode cX0_barOn 10 = .ok (.iload_n 2, 1) := by decide +kernel
theorem dX0_barOn_11 : decode cX0_barOn 11 = .ok (.aload_n 0, 1) := by decide +kernel
theorem dX0_barOn_12 : decode cX0_barOn 12 = .ok (.getfield 9, 3) := by decide +kernel
theorem dX0_barOn_15 : decode cX0_barOn 15 = .ok (.iload_n 1, 1) := by decide +kernel
theorem dX0_barOn_16 : decode cX0_barOn 16 = .ok (.iaload, 1) := by decide +kernel
theorem dX0_barOn_17 : decode cX0_barOn 17 = .ok (.isub, 1) := by decide +kernel
theorem dX0_barOn_18 : decode cX0_barOn 18 = .ok (.bipush 10, 2) := by decide +kernel
theorem dX0_barOn_20 : decode cX0_barOn 20 = .ok (.if_icmp .ge 5, 3) := by decide +kernel
theorem dX0_barOn_23 : decode cX0_barOn 23 = .ok (.iconst 1, 1) := by decide +kernel
theorem dX0_barOn_24 : decode cX0_barOn 24 = .ok (.ireturn, 1) := by decide +kernel
theorem dX0_barOn_25 : decode cX0_barOn 25 = .ok (.aload_n 0, 1) := by decide +kernel
theorem dX0_barOn_26 : decode cX0_barOn 26 = .ok (.getfield 34, 3) := by decide +kernel
theorem dX0_barOn_29 : decode cX0_barOn 29 = .ok (.ifCond .eq 5, 3) := by decide +kernel
theorem dX0_barOn_32 : decode cX0_barOn 32 = .ok (.iconst 2, 1) := by decide +kernel
theorem dX0_barOn_33 : decode cX0_barOn 33 = .ok (.ireturn, 1) := by decide +kernel
theorem dX0_barOn_34 : decode cX0_barOn 34 = .ok (.iload_n 2, 1) := by decide +kernel
theorem dX0_barOn_35 : decode cX0_barOn 35 = .ok (.aload_n 0, 1) := by decide +kernel
theorem dX0_barOn_36 : decode cX0_barOn 36 = .ok (.getfield 25, 3) := by decide +kernel
theorem dX0_barOn_39 : decode cX0_barOn 39 = .ok (.isub, 1) := by decide +kernel
theorem dX0_barOn_40 : decode cX0_barOn 40 = .ok (.sipush 365, 3) := by decide +kernel
theorem dX0_barOn_43 : decode cX0_barOn 43 = .ok (.if_icmp .le 12, 3) := by decide +kernel
theorem dX0_barOn_46 : decode cX0_barOn 46 = .ok (.aload_n 0, 1) := by decide +kernel
theorem dX0_barOn_47 : decode cX0_barOn 47 = .ok (.getfield 38, 3) := by decide +kernel
theorem dX0_barOn_50 : decode cX0_barOn 50 = .ok (.ifCond .ne 5, 3) := by decide +kernel
theorem dX0_barOn_53 : decode cX0_barOn 53 = .ok (.iconst 3, 1) := by decide +kernel
theorem dX0_barOn_54 : decode cX0_barOn 54 = .ok (.ireturn, 1) := by decide +kernel
theorem dX0_barOn_55 : decode cX0_barOn 55 = .ok (.iconst 0, 1) := by decide +kernel
theorem dX0_barOn_56 : decode cX0_barOn 56 = .ok (.ireturn, 1) := by decide +kernel
theorem dX0_giveRemedy_0 : decode cX0_giveRemedy 0 = .ok (.aload_n 0, 1) := by decide +kernel
theorem dX0_giveRemedy_1 : decode cX0_giveRemedy 1 = .ok (.aload_n 0, 1) := by decide +kernel
theorem dX0_giveRemedy_2 : decode cX0_giveRemedy 2 = .ok (.getfield 31, 3) := by decide +kernel
theorem dX0_giveRemedy_5 : decode cX0_giveRemedy 5 = .ok (.iload_n 1, 1) := by decide +kernel
theorem dX0_giveRemedy_6 : decode cX0_giveRemedy 6 = .ok (.imul, 1) := by decide +kernel
theorem dX0_giveRemedy_7 : decode cX0_giveRemedy 7 = .ok (.bipush 100, 2) := by decide +kernel
theorem dX0_giveRemedy_9 : decode cX0_giveRemedy 9 = .ok (.idiv, 1) := by decide +kernel
theorem dX0_giveRemedy_10 : decode cX0_giveRemedy 10 = .ok (.putfield 15, 3) := by decide +kernel
theorem dX0_giveRemedy_13 : decode cX0_giveRemedy 13 = .ok (.return_, 1) := by decide +kernel
theorem dX1_init_0 : decode cX1_init 0 = .ok (.aload_n 0, 1) := by decide +kernel
theorem dX1_init_1 : decode cX1_init 1 = .ok (.invokespecial 3, 3) := by decide +kernel
theorem dX1_init_4 : decode cX1_init 4 = .ok (.aload_n 0, 1) := by decide +kernel
theorem dX1_init_5 : decode cX1_init 5 = .ok (.sipush 512, 3) := by decide +kernel
theorem dX1_init_8 : decode cX1_init 8 = .ok (.newarray .int, 2) := by decide +kernel
theorem dX1_init_10 : decode cX1_init 10 = .ok (.putfield 9, 3) := by decide +kernel
theorem dX1_init_13 : decode cX1_init 13 = .ok (.aload_n 0, 1) := by decide +kernel
theorem dX1_init_14 : decode cX1_init 14 = .ok (.sipush 512, 3) := by decide +kernel
theorem dX1_init_17 : decode cX1_init 17 = .ok (.newarray .int, 2) := by decide +kernel
theorem dX1_init_19 : decode cX1_init 19 = .ok (.putfield 15, 3) := by decide +kernel
theorem dX1_init_22 : decode cX1_init 22 = .ok (.aload_n 0, 1) := by decide +kernel
theorem dX1_init_23 : decode cX1_init 23 = .ok (.sipush 512, 3) := by decide +kernel
theorem dX1_init_26 : decode cX1_init 26 = .ok (.newarray .int, 2) := by decide +kernel
theorem dX1_init_28 : decode cX1_init 28 = .ok (.putfield 18, 3) := by decide +kernel
theorem dX1_init_31 : decode cX1_init 31 = .ok (.return_, 1) := by decide +kernel
theorem dX1_valueOn_0 : decode cX1_valueOn 0 = .ok (.aload_n 0, 1) := by decide +kernel
theorem dX1_valueOn_1 : decode cX1_valueOn 1 = .ok (.getfield 21, 3) := by decide +kernel
theorem dX1_valueOn_4 : decode cX1_valueOn 4 = .ok (.iconst 1, 1) := by decide +kernel
theorem dX1_valueOn_5 : decode cX1_valueOn 5 = .ok (.isub, 1) := by decide +kernel
theorem dX1_valueOn_6 : decode cX1_valueOn 6 = .ok (.istore 4, 2) := by decide +kernel
theorem dX1_valueOn_8 : decode cX1_valueOn 8 = .ok (.iload 4, 2) := by decide +kernel
theorem dX1_valueOn_10 : decode cX1_valueOn 10 = .ok (.ifCond .lt 39, 3) := by decide +kernel
theorem dX1_valueOn_13 : decode cX1_valueOn 13 = .ok (.aload_n 0, 1) := by decide +kernel
theorem dX1_valueOn_14 : decode cX1_valueOn 14 = .ok (.getfield 9, 3) := by decide +kernel
theorem dX1_valueOn_17 : decode cX1_valueOn 17 = .ok (.iload 4, 2) := by decide +kernel
theorem dX1_valueOn_19 : decode cX1_valueOn 19 = .ok (.iaload, 1) := by decide +kernel
theorem dX1_valueOn_20 : decode cX1_valueOn 20 = .ok (.iload_n 1, 1) := by decide +kernel
theorem dX1_valueOn_21 : decode cX1_valueOn 21 = .ok (.if_icmp .ne 22, 3) := by decide +kernel
theorem dX1_valueOn_24 : decode cX1_valueOn 24 = .ok (.aload_n 0, 1) := by decide +kernel
theorem dX1_valueOn_25 : decode cX1_valueOn 25 = .ok (.getfield 15, 3) := by decide +kernel
theorem dX1_valueOn_28 : decode cX1_valueOn 28 = .ok (.iload 4, 2) := by decide +kernel
theorem dX1_valueOn_30 : decode cX1_valueOn 30 = .ok (.iaload, 1) := by decide +kernel
theorem dX1_valueOn_31 : decode cX1_valueOn 31 = .ok (.iload_n 2, 1) := by decide +kernel
theorem dX1_valueOn_32 : decode cX1_valueOn 32 = .ok (.if_icmp .gt 11, 3) := by decide +kernel
theorem dX1_valueOn_35 : decode cX1_valueOn 35 = .ok (.aload_n 0, 1) := by decide +kernel
theorem dX1_valueOn_36 : decode cX1_valueOn 36 = .ok (.getfield 18, 3) := by decide +kernel
theorem dX1_valueOn_39 : decode cX1_valueOn 39 = .ok (.iload 4, 2) := by decide +kernel
theorem dX1_valueOn_41 : decode cX1_valueOn 41 = .ok (.iaload, 1) := by decide +kernel
theorem dX1_valueOn_42 : decode cX1_valueOn 42 = .ok (.ireturn, 1) := by decide +kernel
theorem dX1_valueOn_43 : decode cX1_valueOn 43 = .ok (.iinc 4 (-1), 3) := by decide +kernel
theorem dX1_valueOn_46 : decode cX1_valueOn 46 = .ok (.goto (-38), 3) := by decide +kernel
theorem dX1_valueOn_49 : decode cX1_valueOn 49 = .ok (.iload_n 3, 1) := by decide +kernel
theorem dX1_valueOn_50 : decode cX1_valueOn 50 = .ok (.ireturn, 1) := by decide +kernel
theorem dX1_tell_0 : decode cX1_tell 0 = .ok (.aload_n 0, 1) := by decide +kernel
theorem dX1_tell_1 : decode cX1_tell 1 = .ok (.getfield 21, 3) := by decide +kernel
theorem dX1_tell_4 : decode cX1_tell 4 = .ok (.sipush 512, 3) := by decide +kernel
theorem dX1_tell_7 : decode cX1_tell 7 = .ok (.if_icmp .lt 4, 3) := by decide +kernel
theorem dX1_tell_10 : decode cX1_tell 10 = .ok (.return_, 1) := by decide +kernel
theorem dX1_tell_11 : decode cX1_tell 11 = .ok (.aload_n 0, 1) := by decide +kernel
theorem dX1_tell_12 : decode cX1_tell 12 = .ok (.getfield 9, 3) := by decide +kernel
theorem dX1_tell_15 : decode cX1_tell 15 = .ok (.aload_n 0, 1) := by decide +kernel
theorem dX1_tell_16 : decode cX1_tell 16 = .ok (.getfield 21, 3) := by decide +kernel
theorem dX1_tell_19 : decode cX1_tell 19 = .ok (.iload_n 1, 1) := by decide +kernel
theorem dX1_tell_20 : decode cX1_tell 20 = .ok (.iastore, 1) := by decide +kernel
theorem dX1_tell_21 : decode cX1_tell 21 = .ok (.aload_n 0, 1) := by decide +kernel
theorem dX1_tell_22 : decode cX1_tell 22 = .ok (.getfield 15, 3) := by decide +kernel
theorem dX1_tell_25 : decode cX1_tell 25 = .ok (.aload_n 0, 1) := by decide +kernel
theorem dX1_tell_26 : decode cX1_tell 26 = .ok (.getfield 21, 3) := by decide +kernel
theorem dX1_tell_29 : decode cX1_tell 29 = .ok (.iload_n 2, 1) := by decide +kernel
theorem dX1_tell_30 : decode cX1_tell 30 = .ok (.iastore, 1) := by decide +kernel
theorem dX1_tell_31 : decode cX1_tell 31 = .ok (.aload_n 0, 1) := by decide +kernel
theorem dX1_tell_32 : decode cX1_tell 32 = .ok (.getfield 18, 3) := by decide +kernel
theorem dX1_tell_35 : decode cX1_tell 35 = .ok (.aload_n 0, 1) := by decide +kernel
theorem dX1_tell_36 : decode cX1_tell 36 = .ok (.getfield 21, 3) := by decide +kernel
theorem dX1_tell_39 : decode cX1_tell 39 = .ok (.iload_n 3, 1) := by decide +kernel
theorem dX1_tell_40 : decode cX1_tell 40 = .ok (.iastore, 1) := by decide +kernel
theorem dX1_tell_41 : decode cX1_tell 41 = .ok (.aload_n 0, 1) := by decide +kernel
theorem dX1_tell_42 : decode cX1_tell 42 = .ok (.dup, 1) := by decide +kernel
theorem dX1_tell_43 : decode cX1_tell 43 = .ok (.getfield 21, 3) := by decide +kernel
theorem dX1_tell_46 : decode cX1_tell 46 = .ok (.iconst 1, 1) := by decide +kernel
theorem dX1_tell_47 : decode cX1_tell 47 = .ok (.iadd, 1) := by decide +kernel
theorem dX1_tell_48 : decode cX1_tell 48 = .ok (.putfield 21, 3) := by decide +kernel
theorem dX1_tell_51 : decode cX1_tell 51 = .ok (.return_, 1) := by decide +kernel
theorem dX2_init_0 : decode cX2_init 0 = .ok (.aload_n 0, 1) := by decide +kernel
theorem dX2_init_1 : decode cX2_init 1 = .ok (.invokespecial 3, 3) := by decide +kernel
theorem dX2_init_4 : decode cX2_init 4 = .ok (.return_, 1) := by decide +kernel
theorem dX2_begin_0 : decode cX2_begin 0 = .ok (.aload_n 0, 1) := by decide +kernel
theorem dX2_begin_1 : decode cX2_begin 1 = .ok (.iload_n 1, 1) := by decide +kernel
theorem dX2_begin_2 : decode cX2_begin 2 = .ok (.putfield 9, 3) := by decide +kernel
theorem dX2_begin_5 : decode cX2_begin 5 = .ok (.aload_n 0, 1) := by decide +kernel
theorem dX2_begin_6 : decode cX2_begin 6 = .ok (.iconst 0, 1) := by decide +kernel
theorem dX2_begin_7 : decode cX2_begin 7 = .ok (.putfield 15, 3) := by decide +kernel
theorem dX2_begin_10 : decode cX2_begin 10 = .ok (.aload_n 0, 1) := by decide +kernel
theorem dX2_begin_11 : decode cX2_begin 11 = .ok (.bipush 60, 2) := by decide +kernel
theorem dX2_begin_13 : decode cX2_begin 13 = .ok (.putfield 18, 3) := by decide +kernel
theorem dX2_begin_16 : decode cX2_begin 16 = .ok (.aload_n 0, 1) := by decide +kernel
theorem dX2_begin_17 : decode cX2_begin 17 = .ok (.iconst 0, 1) := by decide +kernel
theorem dX2_begin_18 : decode cX2_begin 18 = .ok (.putfield 21, 3) := by decide +kernel
theorem dX2_begin_21 : decode cX2_begin 21 = .ok (.aload_n 0, 1) := by decide +kernel
theorem dX2_begin_22 : decode cX2_begin 22 = .ok (.iconst (-1), 1) := by decide +kernel
theorem dX2_begin_23 : decode cX2_begin 23 = .ok (.putfield 24, 3) := by decide +kernel
theorem dX2_begin_26 : decode cX2_begin 26 = .ok (.return_, 1) := by decide +kernel
theorem dX2_join_0 : decode cX2_join 0 = .ok (.aload_n 0, 1) := by decide +kernel
theorem dX2_join_1 : decode cX2_join 1 = .ok (.dup, 1) := by decide +kernel
theorem dX2_join_2 : decode cX2_join 2 = .ok (.getfield 27, 3) := by decide +kernel
theorem dX2_join_5 : decode cX2_join 5 = .ok (.iconst 1, 1) := by decide +kernel
theorem dX2_join_6 : decode cX2_join 6 = .ok (.iload_n 1, 1) := by decide +kernel
theorem dX2_join_7 : decode cX2_join 7 = .ok (.ishl, 1) := by decide +kernel
theorem dX2_join_8 : decode cX2_join 8 = .ok (.ior, 1) := by decide +kernel
theorem dX2_join_9 : decode cX2_join 9 = .ok (.putfield 27, 3) := by decide +kernel
theorem dX2_join_12 : decode cX2_join 12 = .ok (.return_, 1) := by decide +kernel
theorem dX2_letDaysGoBy_0 : decode cX2_letDaysGoBy 0 = .ok (.aload_n 0, 1) := by decide +kernel
theorem dX2_letDaysGoBy_1 : decode cX2_letDaysGoBy 1 = .ok (.getfield 15, 3) := by decide +kernel
theorem dX2_letDaysGoBy_4 : decode cX2_letDaysGoBy 4 = .ok (.ifCond .ne 11, 3) := by decide +kernel
theorem dX2_letDaysGoBy_7 : decode cX2_letDaysGoBy 7 = .ok (.aload_n 0, 1) := by decide +kernel
theorem dX2_letDaysGoBy_8 : decode cX2_letDaysGoBy 8 = .ok (.getfield 21, 3) := by decide +kernel
theorem dX2_letDaysGoBy_11 : decode cX2_letDaysGoBy 11 = .ok (.iconst 1, 1) := by decide +kernel
theorem dX2_letDaysGoBy_12 : decode cX2_letDaysGoBy 12 = .ok (.if_icmp .ne 4, 3) := by decide +kernel
theorem dX2_letDaysGoBy_15 : decode cX2_letDaysGoBy 15 = .ok (.return_, 1) := by decide +kernel
theorem dX2_letDaysGoBy_16 : decode cX2_letDaysGoBy 16 = .ok (.aload_n 0, 1) := by decide +kernel
theorem dX2_letDaysGoBy_17 : decode cX2_letDaysGoBy 17 = .ok (.iconst 0, 1) := by decide +kernel
theorem dX2_letDaysGoBy_18 : decode cX2_letDaysGoBy 18 = .ok (.aload_n 0, 1) := by decide +kernel
theorem dX2_letDaysGoBy_19 : decode cX2_letDaysGoBy 19 = .ok (.getfield 18, 3) := by decide +kernel
theorem dX2_letDaysGoBy_22 : decode cX2_letDaysGoBy 22 = .ok (.iload_n 1, 1) := by decide +kernel
theorem dX2_letDaysGoBy_23 : decode cX2_letDaysGoBy 23 = .ok (.isub, 1) := by decide +kernel
theorem dX2_letDaysGoBy_24 : decode cX2_letDaysGoBy 24 = .ok (.invokestatic 30, 3) := by decide +kernel
theorem dX2_letDaysGoBy_27 : decode cX2_letDaysGoBy 27 = .ok (.putfield 18, 3) := by decide +kernel
theorem dX2_letDaysGoBy_30 : decode cX2_letDaysGoBy 30 = .ok (.aload_n 0, 1) := by decide +kernel
theorem dX2_letDaysGoBy_31 : decode cX2_letDaysGoBy 31 = .ok (.getfield 18, 3) := by decide +kernel
theorem dX2_letDaysGoBy_34 : decode cX2_letDaysGoBy 34 = .ok (.ifCond .ne 8, 3) := by decide +kernel
theorem dX2_letDaysGoBy_37 : decode cX2_letDaysGoBy 37 = .ok (.aload_n 0, 1) := by decide +kernel
theorem dX2_letDaysGoBy_38 : decode cX2_letDaysGoBy 38 = .ok (.iconst 2, 1) := by decide +kernel
theorem dX2_letDaysGoBy_39 : decode cX2_letDaysGoBy 39 = .ok (.putfield 15, 3) := by decide +kernel
theorem dX2_letDaysGoBy_42 : decode cX2_letDaysGoBy 42 = .ok (.return_, 1) := by decide +kernel
set_option maxRecDepth 20000 in
theorem ggX3_init_X1_init : GoodIn wsX3_init wsX1_init := goodIn_r _ [23, 24, 2, 3, 6, 25, 26, 27, 49, 50, 51, 52] (by decide +kernel) (by decide +kernel)
set_option maxRecDepth 20000 in
theorem gX3_init_X1_init : GoodIn wsX3_init (wsX1_init) := ggX3_init_X1_init
set_option maxRecDepth 20000 in
theorem ggX3_init_X0_init : GoodIn wsX3_init wsX0_init := goodIn_r _ [30, 31, 2, 3, 6, 32, 33, 53, 54, 55, 56, 57, 58, 59, 60, 61] (by decide +kernel) (by decide +kernel)
set_option maxRecDepth 20000 in
theorem gX3_init_X0_init : GoodIn wsX3_init (wsX0_init) := ggX3_init_X0_init
set_option maxRecDepth 20000 in
theorem ggX3_init_X2_init : GoodIn wsX3_init wsX2_init := goodIn_r _ [36, 37, 2, 3] (by decide +kernel) (by decide +kernel)
set_option maxRecDepth 20000 in
theorem gX3_init_X2_init : GoodIn wsX3_init (wsX2_init) := ggX3_init_X2_init
theorem dX3_init_0 : decode cX3_init 0 = .ok (.aload_n 0, 1) := by decide +kernel
theorem dX3_init_1 : decode cX3_init 1 = .ok (.invokespecial 1, 3) := by decide +kernel
theorem dX3_init_4 : decode cX3_init 4 = .ok (.aload_n 0, 1) := by decide +kernel
theorem dX3_init_5 : decode cX3_init 5 = .ok (.bipush 7, 2) := by decide +kernel
theorem dX3_init_7 : decode cX3_init 7 = .ok (.newarray .char, 2) := by decide +kernel
theorem dX3_init_9 : decode cX3_init 9 = .ok (.putfield 9, 3) := by decide +kernel
theorem dX3_init_12 : decode cX3_init 12 = .ok (.aload_n 0, 1) := by decide +kernel
theorem dX3_init_13 : decode cX3_init 13 = .ok (.bipush 10, 2) := by decide +kernel
theorem dX3_init_15 : decode cX3_init 15 = .ok (.newarray .int, 2) := by decide +kernel
theorem dX3_init_17 : decode cX3_init 17 = .ok (.putfield 13, 3) := by decide +kernel
theorem dX3_init_20 : decode cX3_init 20 = .ok (.aload_n 0, 1) := by decide +kernel
theorem dX3_init_21 : decode cX3_init 21 = .ok (.new 17, 3) := by decide +kernel
theorem dX3_init_24 : decode cX3_init 24 = .ok (.dup, 1) := by decide +kernel
theorem dX3_init_25 : decode cX3_init 25 = .ok (.invokespecial 19, 3) := by decide +kernel
theorem dX3_init_28 : decode cX3_init 28 = .ok (.putfield 20, 3) := by decide +kernel
theorem dX3_init_31 : decode cX3_init 31 = .ok (.aload_n 0, 1) := by decide +kernel
theorem dX3_init_32 : decode cX3_init 32 = .ok (.new 17, 3) := by decide +kernel
theorem dX3_init_35 : decode cX3_init 35 = .ok (.dup, 1) := by decide +kernel
theorem dX3_init_36 : decode cX3_init 36 = .ok (.invokespecial 19, 3) := by decide +kernel
theorem dX3_init_39 : decode cX3_init 39 = .ok (.putfield 24, 3) := by decide +kernel
theorem dX3_init_42 : decode cX3_init 42 = .ok (.aload_n 0, 1) := by decide +kernel
theorem dX3_init_43 : decode cX3_init 43 = .ok (.bipush 24, 2) := by decide +kernel
theorem dX3_init_45 : decode cX3_init 45 = .ok (.anewarray 27, 3) := by decide +kernel
theorem dX3_init_48 : decode cX3_init 48 = .ok (.putfield 29, 3) := by decide +kernel
theorem dX3_init_51 : decode cX3_init 51 = .ok (.iconst 0, 1) := by decide +kernel
theorem dX3_init_52 : decode cX3_init 52 = .ok (.istore_n 1, 1) := by decide +kernel
theorem dX3_init_53 : decode cX3_init 53 = .ok (.iload_n 1, 1) := by decide +kernel
theorem dX3_init_54 : decode cX3_init 54 = .ok (.bipush 24, 2) := by decide +kernel
theorem dX3_init_56 : decode cX3_init 56 = .ok (.if_icmp .ge 22, 3) := by decide +kernel
theorem dX3_init_59 : decode cX3_init 59 = .ok (.aload_n 0, 1) := by decide +kernel
theorem dX3_init_60 : decode cX3_init 60 = .ok (.getfield 29, 3) := by decide +kernel
theorem dX3_init_63 : decode cX3_init 63 = .ok (.iload_n 1, 1) := by decide +kernel
theorem dX3_init_64 : decode cX3_init 64 = .ok (.new 27, 3) := by decide +kernel
theorem dX3_init_67 : decode cX3_init 67 = .ok (.dup, 1) := by decide +kernel
theorem dX3_init_68 : decode cX3_init 68 = .ok (.invokespecial 33, 3) := by decide +kernel
theorem dX3_init_71 : decode cX3_init 71 = .ok (.aastore, 1) := by decide +kernel
theorem dX3_init_72 : decode cX3_init 72 = .ok (.iinc 1 1, 3) := by decide +kernel
theorem dX3_init_75 : decode cX3_init 75 = .ok (.goto (-22), 3) := by decide +kernel
theorem dX3_init_78 : decode cX3_init 78 = .ok (.aload_n 0, 1) := by decide +kernel
theorem dX3_init_79 : decode cX3_init 79 = .ok (.bipush 16, 2) := by decide +kernel
theorem dX3_init_81 : decode cX3_init 81 = .ok (.anewarray 34, 3) := by decide +kernel
theorem dX3_init_84 : decode cX3_init 84 = .ok (.putfield 36, 3) := by decide +kernel
theorem dX3_init_87 : decode cX3_init 87 = .ok (.iconst 0, 1) := by decide +kernel
theorem dX3_init_88 : decode cX3_init 88 = .ok (.istore_n 1, 1) := by decide +kernel
theorem dX3_init_89 : decode cX3_init 89 = .ok (.iload_n 1, 1) := by decide +kernel
theorem dX3_init_90 : decode cX3_init 90 = .ok (.bipush 16, 2) := by decide +kernel
theorem dX3_init_92 : decode cX3_init 92 = .ok (.if_icmp .ge 22, 3) := by decide +kernel
theorem dX3_init_95 : decode cX3_init 95 = .ok (.aload_n 0, 1) := by decide +kernel
theorem dX3_init_96 : decode cX3_init 96 = .ok (.getfield 36, 3) := by decide +kernel
theorem dX3_init_99 : decode cX3_init 99 = .ok (.iload_n 1, 1) := by decide +kernel
theorem dX3_init_100 : decode cX3_init 100 = .ok (.new 34, 3) := by decide +kernel
theorem dX3_init_103 : decode cX3_init 103 = .ok (.dup, 1) := by decide +kernel
theorem dX3_init_104 : decode cX3_init 104 = .ok (.invokespecial 40, 3) := by decide +kernel
theorem dX3_init_107 : decode cX3_init 107 = .ok (.aastore, 1) := by decide +kernel
theorem dX3_init_108 : decode cX3_init 108 = .ok (.iinc 1 1, 3) := by decide +kernel
theorem dX3_init_111 : decode cX3_init 111 = .ok (.goto (-22), 3) := by decide +kernel
theorem dX3_init_114 : decode cX3_init 114 = .ok (.return_, 1) := by decide +kernel
theorem dX3_letter_0 : decode cX3_letter 0 = .ok (.iload_n 1, 1) := by decide +kernel
theorem dX3_letter_1 : decode cX3_letter 1 = .ok (.bipush 97, 2) := by decide +kernel
theorem dX3_letter_3 : decode cX3_letter 3 = .ok (.if_icmp .lt 9, 3) := by decide +kernel
theorem dX3_letter_6 : decode cX3_letter 6 = .ok (.iload_n 1, 1) := by decide +kernel
theorem dX3_letter_7 : decode cX3_letter 7 = .ok (.bipush 122, 2) := by decide +kernel
theorem dX3_letter_9 : decode cX3_letter 9 = .ok (.if_icmp .le 13, 3) := by decide +kernel
theorem dX3_letter_12 : decode cX3_letter 12 = .ok (.new 41, 3) := by decide +kernel
theorem dX3_letter_15 : decode cX3_letter 15 = .ok (.dup, 1) := by decide +kernel
theorem dX3_letter_16 : decode cX3_letter 16 = .ok (.ldc 43, 2) := by decide +kernel
theorem dX3_letter_18 : decode cX3_letter 18 = .ok (.invokespecial 45, 3) := by decide +kernel
theorem dX3_letter_21 : decode cX3_letter 21 = .ok (.athrow, 1) := by decide +kernel
theorem dX3_letter_22 : decode cX3_letter 22 = .ok (.aload_n 0, 1) := by decide +kernel
theorem dX3_letter_23 : decode cX3_letter 23 = .ok (.getfield 48, 3) := by decide +kernel
theorem dX3_letter_26 : decode cX3_letter 26 = .ok (.bipush 7, 2) := by decide +kernel
theorem dX3_letter_28 : decode cX3_letter 28 = .ok (.if_icmp .lt 13, 3) := by decide +kernel
theorem dX3_letter_31 : decode cX3_letter 31 = .ok (.new 52, 3) := by decide +kernel
theorem dX3_letter_34 : decode cX3_letter 34 = .ok (.dup, 1) := by decide +kernel
theorem dX3_letter_35 : decode cX3_letter 35 = .ok (.ldc 54, 2) := by decide +kernel
theorem dX3_letter_37 : decode cX3_letter 37 = .ok (.invokespecial 56, 3) := by decide +kernel
theorem dX3_letter_40 : decode cX3_letter 40 = .ok (.athrow, 1) := by decide +kernel
theorem dX3_letter_41 : decode cX3_letter 41 = .ok (.aload_n 0, 1) := by decide +kernel
theorem dX3_letter_42 : decode cX3_letter 42 = .ok (.getfield 9, 3) := by decide +kernel
theorem dX3_letter_45 : decode cX3_letter 45 = .ok (.aload_n 0, 1) := by decide +kernel
theorem dX3_letter_46 : decode cX3_letter 46 = .ok (.getfield 48, 3) := by decide +kernel
theorem dX3_letter_49 : decode cX3_letter 49 = .ok (.iload_n 1, 1) := by decide +kernel
theorem dX3_letter_50 : decode cX3_letter 50 = .ok (.castore, 1) := by decide +kernel
theorem dX3_letter_51 : decode cX3_letter 51 = .ok (.aload_n 0, 1) := by decide +kernel
theorem dX3_letter_52 : decode cX3_letter 52 = .ok (.dup, 1) := by decide +kernel
theorem dX3_letter_53 : decode cX3_letter 53 = .ok (.getfield 48, 3) := by decide +kernel
theorem dX3_letter_56 : decode cX3_letter 56 = .ok (.iconst 1, 1) := by decide +kernel
theorem dX3_letter_57 : decode cX3_letter 57 = .ok (.iadd, 1) := by decide +kernel
theorem dX3_letter_58 : decode cX3_letter 58 = .ok (.putfield 48, 3) := by decide +kernel
theorem dX3_letter_61 : decode cX3_letter 61 = .ok (.aload_n 0, 1) := by decide +kernel
theorem dX3_letter_62 : decode cX3_letter 62 = .ok (.getfield 48, 3) := by decide +kernel
theorem dX3_letter_65 : decode cX3_letter 65 = .ok (.ireturn, 1) := by decide +kernel
set_option maxRecDepth 20000 in
theorem ggX3_office_X3_needNumber : GoodIn wsX3_office wsX3_needNumber := goodIn_ca (goodIn_r _ [8, 9, 10] (by decide +kernel) (by decide +kernel)) (goodIn_sub (fun _ h => List.mem_cons_of_mem _ (List.mem_append_right _ h)) (by decide +kernel))
set_option maxRecDepth 20000 in
theorem gX3_office_X3_needNumber : GoodIn wsX3_office (va_wsS RX3 60 yX3_needNumber wsX3_needNumber) := goodIn_app (goodIn_of _ (by decide +kernel)) ggX3_office_X3_needNumber
theorem dX3_office_0 : decode cX3_office 0 = .ok (.iload_n 1, 1) := by decide +kernel
theorem dX3_office_1 : decode cX3_office 1 = .ok (.iconst (-1), 1) := by decide +kernel
theorem dX3_office_2 : decode cX3_office 2 = .ok (.if_icmp .eq 11, 3) := by decide +kernel
theorem dX3_office_5 : decode cX3_office 5 = .ok (.iload_n 1, 1) := by decide +kernel
theorem dX3_office_6 : decode cX3_office 6 = .ok (.aload_n 0, 1) := by decide +kernel
theorem dX3_office_7 : decode cX3_office 7 = .ok (.getfield 57, 3) := by decide +kernel
theorem dX3_office_10 : decode cX3_office 10 = .ok (.invokestatic 60, 3) := by decide +kernel
theorem dX3_office_13 : decode cX3_office 13 = .ok (.aload_n 0, 1) := by decide +kernel
theorem dX3_office_14 : decode cX3_office 14 = .ok (.getfield 57, 3) := by decide +kernel
theorem dX3_office_17 : decode cX3_office 17 = .ok (.bipush 10, 2) := by decide +kernel
theorem dX3_office_19 : decode cX3_office 19 = .ok (.if_icmp .lt 13, 3) := by decide +kernel
theorem dX3_office_22 : decode cX3_office 22 = .ok (.new 52, 3) := by decide +kernel
theorem dX3_office_25 : decode cX3_office 25 = .ok (.dup, 1) := by decide +kernel
theorem dX3_office_26 : decode cX3_office 26 = .ok (.ldc 64, 2) := by decide +kernel
theorem dX3_office_28 : decode cX3_office 28 = .ok (.invokespecial 56, 3) := by decide +kernel
theorem dX3_office_31 : decode cX3_office 31 = .ok (.athrow, 1) := by decide +kernel
theorem dX3_office_32 : decode cX3_office 32 = .ok (.aload_n 0, 1) := by decide +kernel
theorem dX3_office_33 : decode cX3_office 33 = .ok (.getfield 57, 3) := by decide +kernel
theorem dX3_office_36 : decode cX3_office 36 = .ok (.istore_n 2, 1) := by decide +kernel
theorem dX3_office_37 : decode cX3_office 37 = .ok (.aload_n 0, 1) := by decide +kernel
theorem dX3_office_38 : decode cX3_office 38 = .ok (.getfield 13, 3) := by decide +kernel
theorem dX3_office_41 : decode cX3_office 41 = .ok (.iload_n 2, 1) := by decide +kernel
theorem dX3_office_42 : decode cX3_office 42 = .ok (.iload_n 1, 1) := by decide +kernel
theorem dX3_office_43 : decode cX3_office 43 = .ok (.iastore, 1) := by decide +kernel
theorem dX3_office_44 : decode cX3_office 44 = .ok (.aload_n 0, 1) := by decide +kernel
theorem dX3_office_45 : decode cX3_office 45 = .ok (.dup, 1) := by decide +kernel
theorem dX3_office_46 : decode cX3_office 46 = .ok (.getfield 57, 3) := by decide +kernel
theorem dX3_office_49 : decode cX3_office 49 = .ok (.iconst 1, 1) := by decide +kernel
theorem dX3_office_50 : decode cX3_office 50 = .ok (.iadd, 1) := by decide +kernel
theorem dX3_office_51 : decode cX3_office 51 = .ok (.putfield 57, 3) := by decide +kernel
theorem dX3_office_54 : decode cX3_office 54 = .ok (.iload_n 2, 1) := by decide +kernel
theorem dX3_office_55 : decode cX3_office 55 = .ok (.ireturn, 1) := by decide +kernel
set_option maxRecDepth 20000 in
theorem ggX3_delegate_X3_needNumber : GoodIn wsX3_delegate wsX3_needNumber := goodIn_ca (goodIn_r _ [9, 10, 11] (by decide +kernel) (by decide +kernel)) (goodIn_sub (fun _ h => List.mem_cons_of_mem _ (List.mem_append_right _ h)) (by decide +kernel))
set_option maxRecDepth 20000 in
theorem gX3_delegate_X3_needNumber : GoodIn wsX3_delegate (va_wsS RX3 60 yX3_needNumber wsX3_needNumber) := goodIn_app (goodIn_of _ (by decide +kernel)) ggX3_delegate_X3_needNumber
set_option maxRecDepth 20000 in
theorem ggX3_delegate_X1_valueOn : GoodIn wsX3_delegate wsX1_valueOn := goodIn_r _ [16, 17, 18, 19, 20, 36, 37, 38, 39] (by decide +kernel) (by decide +kernel)
set_option maxRecDepth 20000 in
theorem gX3_delegate_X1_valueOn : GoodIn wsX3_delegate (wsV RX3 71 RX1 yX1_valueOn wsX1_valueOn) := goodIn_app (goodIn_of _ (by decide +kernel)) ggX3_delegate_X1_valueOn
set_option maxRecDepth 20000 in
theorem ggX3_delegate_X1_tell : GoodIn wsX3_delegate wsX1_tell := goodIn_r _ [24, 17, 18, 19, 20, 36, 37, 38, 39] (by decide +kernel) (by decide +kernel)
set_option maxRecDepth 20000 in
theorem gX3_delegate_X1_tell : GoodIn wsX3_delegate (wsV RX3 75 RX1 yX1_tell wsX1_tell) := goodIn_app (goodIn_of _ (by decide +kernel)) ggX3_delegate_X1_tell
theorem dX3_delegate_0 : decode cX3_delegate 0 = .ok (.iload_n 1, 1) := by decide +kernel
theorem dX3_delegate_1 : decode cX3_delegate 1 = .ok (.aload_n 0, 1) := by decide +kernel
theorem dX3_delegate_2 : decode cX3_delegate 2 = .ok (.getfield 57, 3) := by decide +kernel
theorem dX3_delegate_5 : decode cX3_delegate 5 = .ok (.invokestatic 60, 3) := by decide +kernel
theorem dX3_delegate_8 : decode cX3_delegate 8 = .ok (.iload_n 2, 1) := by decide +kernel
theorem dX3_delegate_9 : decode cX3_delegate 9 = .ok (.iconst (-1), 1) := by decide +kernel
theorem dX3_delegate_10 : decode cX3_delegate 10 = .ok (.if_icmp .eq 11, 3) := by decide +kernel
theorem dX3_delegate_13 : decode cX3_delegate 13 = .ok (.iload_n 2, 1) := by decide +kernel
theorem dX3_delegate_14 : decode cX3_delegate 14 = .ok (.aload_n 0, 1) := by decide +kernel
theorem dX3_delegate_15 : decode cX3_delegate 15 = .ok (.getfield 57, 3) := by decide +kernel
theorem dX3_delegate_18 : decode cX3_delegate 18 = .ok (.invokestatic 60, 3) := by decide +kernel
theorem dX3_delegate_21 : decode cX3_delegate 21 = .ok (.iload_n 1, 1) := by decide +kernel
theorem dX3_delegate_22 : decode cX3_delegate 22 = .ok (.iload_n 2, 1) := by decide +kernel
theorem dX3_delegate_23 : decode cX3_delegate 23 = .ok (.if_icmp .ne 13, 3) := by decide +kernel
theorem dX3_delegate_26 : decode cX3_delegate 26 = .ok (.new 41, 3) := by decide +kernel
theorem dX3_delegate_29 : decode cX3_delegate 29 = .ok (.dup, 1) := by decide +kernel
theorem dX3_delegate_30 : decode cX3_delegate 30 = .ok (.ldc 66, 2) := by decide +kernel
theorem dX3_delegate_32 : decode cX3_delegate 32 = .ok (.invokespecial 45, 3) := by decide +kernel
theorem dX3_delegate_35 : decode cX3_delegate 35 = .ok (.athrow, 1) := by decide +kernel
theorem dX3_delegate_36 : decode cX3_delegate 36 = .ok (.aload_n 0, 1) := by decide +kernel
theorem dX3_delegate_37 : decode cX3_delegate 37 = .ok (.getfield 20, 3) := by decide +kernel
theorem dX3_delegate_40 : decode cX3_delegate 40 = .ok (.iload_n 1, 1) := by decide +kernel
theorem dX3_delegate_41 : decode cX3_delegate 41 = .ok (.aload_n 0, 1) := by decide +kernel
theorem dX3_delegate_42 : decode cX3_delegate 42 = .ok (.getfield 68, 3) := by decide +kernel
theorem dX3_delegate_45 : decode cX3_delegate 45 = .ok (.iconst (-1), 1) := by decide +kernel
theorem dX3_delegate_46 : decode cX3_delegate 46 = .ok (.invokevirtual 71, 3) := by decide +kernel
theorem dX3_delegate_49 : decode cX3_delegate 49 = .ok (.istore_n 3, 1) := by decide +kernel
theorem dX3_delegate_50 : decode cX3_delegate 50 = .ok (.aload_n 0, 1) := by decide +kernel
theorem dX3_delegate_51 : decode cX3_delegate 51 = .ok (.getfield 20, 3) := by decide +kernel
theorem dX3_delegate_54 : decode cX3_delegate 54 = .ok (.iload_n 1, 1) := by decide +kernel
theorem dX3_delegate_55 : decode cX3_delegate 55 = .ok (.aload_n 0, 1) := by decide +kernel
theorem dX3_delegate_56 : decode cX3_delegate 56 = .ok (.getfield 68, 3) := by decide +kernel
theorem dX3_delegate_59 : decode cX3_delegate 59 = .ok (.iload_n 2, 1) := by decide +kernel
theorem dX3_delegate_60 : decode cX3_delegate 60 = .ok (.invokevirtual 75, 3) := by decide +kernel
theorem dX3_delegate_63 : decode cX3_delegate 63 = .ok (.iload_n 3, 1) := by decide +kernel
theorem dX3_delegate_64 : decode cX3_delegate 64 = .ok (.ireturn, 1) := by decide +kernel
set_option maxRecDepth 20000 in
theorem ggX3_whose_X3_needNumber : GoodIn wsX3_whose wsX3_needNumber := goodIn_ca (goodIn_r _ [6, 7, 8] (by decide +kernel) (by decide +kernel)) (goodIn_sub (fun _ h => List.mem_cons_of_mem _ (List.mem_append_left _ (List.mem_append_right _ h))) (by decide +kernel))
set_option maxRecDepth 20000 in
theorem gX3_whose_X3_needNumber : GoodIn wsX3_whose (va_wsS RX3 60 yX3_needNumber wsX3_needNumber) := goodIn_app (goodIn_of _ (by decide +kernel)) ggX3_whose_X3_needNumber
set_option maxRecDepth 20000 in
theorem ggX3_whose_X3_needRange : GoodIn wsX3_whose wsX3_needRange := goodIn_ca (goodIn_r _ [11, 12, 13] (by decide +kernel) (by decide +kernel)) (goodIn_sub (fun _ h => List.mem_cons_of_mem _ (List.mem_append_right _ h)) (by decide +kernel))
set_option maxRecDepth 20000 in
theorem gX3_whose_X3_needRange : GoodIn wsX3_whose (va_wsS RX3 79 yX3_needRange wsX3_needRange) := goodIn_app (goodIn_of _ (by decide +kernel)) ggX3_whose_X3_needRange
set_option maxRecDepth 20000 in
theorem ggX3_whose_X3_ownerOn : GoodIn wsX3_whose wsX3_ownerOn := goodIn_r _ [17, 18, 19, 20, 21, 22, 23, 24, 25, 26, 27, 28, 29, 30, 31, 32, 33, 34, 35, 36, 37, 38, 39, 40, 41, 42] (by decide +kernel) (by decide +kernel)
set_option maxRecDepth 20000 in
theorem gX3_whose_X3_ownerOn : GoodIn wsX3_whose (wsV RX3 82 RX3 yX3_ownerOn wsX3_ownerOn) := goodIn_app (goodIn_of _ (by decide +kernel)) ggX3_whose_X3_ownerOn
theorem dX3_whose_0 : decode cX3_whose 0 = .ok (.iload_n 1, 1) := by decide +kernel
theorem dX3_whose_1 : decode cX3_whose 1 = .ok (.aload_n 0, 1) := by decide +kernel
theorem dX3_whose_2 : decode cX3_whose 2 = .ok (.getfield 57, 3) := by decide +kernel
theorem dX3_whose_5 : decode cX3_whose 5 = .ok (.invokestatic 60, 3) := by decide +kernel
theorem dX3_whose_8 : decode cX3_whose 8 = .ok (.iload_n 2, 1) := by decide +kernel
theorem dX3_whose_9 : decode cX3_whose 9 = .ok (.iconst 0, 1) := by decide +kernel
theorem dX3_whose_10 : decode cX3_whose 10 = .ok (.aload_n 0, 1) := by decide +kernel
theorem dX3_whose_11 : decode cX3_whose 11 = .ok (.getfield 68, 3) := by decide +kernel
theorem dX3_whose_14 : decode cX3_whose 14 = .ok (.invokestatic 79, 3) := by decide +kernel
theorem dX3_whose_17 : decode cX3_whose 17 = .ok (.aload_n 0, 1) := by decide +kernel
theorem dX3_whose_18 : decode cX3_whose 18 = .ok (.iload_n 1, 1) := by decide +kernel
theorem dX3_whose_19 : decode cX3_whose 19 = .ok (.iload_n 2, 1) := by decide +kernel
theorem dX3_whose_20 : decode cX3_whose 20 = .ok (.invokevirtual 82, 3) := by decide +kernel
theorem dX3_whose_23 : decode cX3_whose 23 = .ok (.ireturn, 1) := by decide +kernel
set_option maxRecDepth 20000 in
theorem ggX3_limit_X3_needNumber : GoodIn wsX3_limit wsX3_needNumber := goodIn_ca (goodIn_r _ [6, 7, 8] (by decide +kernel) (by decide +kernel)) (goodIn_sub (fun _ h => List.mem_cons_of_mem _ (List.mem_append_left _ (List.mem_append_right _ h))) (by decide +kernel))
set_option maxRecDepth 20000 in
theorem gX3_limit_X3_needNumber : GoodIn wsX3_limit (va_wsS RX3 60 yX3_needNumber wsX3_needNumber) := goodIn_app (goodIn_of _ (by decide +kernel)) ggX3_limit_X3_needNumber
set_option maxRecDepth 20000 in
theorem ggX3_limit_X3_needRange : GoodIn wsX3_limit wsX3_needRange := goodIn_ca (goodIn_r _ [11, 12, 13] (by decide +kernel) (by decide +kernel)) (goodIn_sub (fun _ h => List.mem_cons_of_mem _ (List.mem_append_right _ h)) (by decide +kernel))
set_option maxRecDepth 20000 in
theorem gX3_limit_X3_needRange : GoodIn wsX3_limit (va_wsS RX3 79 yX3_needRange wsX3_needRange) := goodIn_app (goodIn_of _ (by decide +kernel)) ggX3_limit_X3_needRange
set_option maxRecDepth 20000 in
theorem ggX3_limit_X1_valueOn : GoodIn wsX3_limit wsX1_valueOn := goodIn_r _ [18, 19, 20, 21, 22, 38, 39, 40, 41] (by decide +kernel) (by decide +kernel)
set_option maxRecDepth 20000 in
theorem gX3_limit_X1_valueOn : GoodIn wsX3_limit (wsV RX3 71 RX1 yX1_valueOn wsX1_valueOn) := goodIn_app (goodIn_of _ (by decide +kernel)) ggX3_limit_X1_valueOn
set_option maxRecDepth 20000 in
theorem ggX3_limit_X1_tell : GoodIn wsX3_limit wsX1_tell := goodIn_r _ [26, 19, 20, 21, 22, 38, 39, 40, 41] (by decide +kernel) (by decide +kernel)
set_option maxRecDepth 20000 in
theorem gX3_limit_X1_tell : GoodIn wsX3_limit (wsV RX3 75 RX1 yX1_tell wsX1_tell) := goodIn_app (goodIn_of _ (by decide +kernel)) ggX3_limit_X1_tell
theorem dX3_limit_0 : decode cX3_limit 0 = .ok (.iload_n 1, 1) := by decide +kernel
theorem dX3_limit_1 : decode cX3_limit 1 = .ok (.iconst 4, 1) := by decide +kernel
theorem dX3_limit_2 : decode cX3_limit 2 = .ok (.invokestatic 60, 3) := by decide +kernel
theorem dX3_limit_5 : decode cX3_limit 5 = .ok (.iload_n 2, 1) := by decide +kernel
theorem dX3_limit_6 : decode cX3_limit 6 = .ok (.iconst 0, 1) := by decide +kernel
theorem dX3_limit_7 : decode cX3_limit 7 = .ok (.bipush 100, 2) := by decide +kernel
theorem dX3_limit_9 : decode cX3_limit 9 = .ok (.invokestatic 79, 3) := by decide +kernel
theorem dX3_limit_12 : decode cX3_limit 12 = .ok (.aload_n 0, 1) := by decide +kernel
theorem dX3_limit_13 : decode cX3_limit 13 = .ok (.getfield 24, 3) := by decide +kernel
theorem dX3_limit_16 : decode cX3_limit 16 = .ok (.iload_n 1, 1) := by decide +kernel
theorem dX3_limit_17 : decode cX3_limit 17 = .ok (.aload_n 0, 1) := by decide +kernel
theorem dX3_limit_18 : decode cX3_limit 18 = .ok (.getfield 68, 3) := by decide +kernel
theorem dX3_limit_21 : decode cX3_limit 21 = .ok (.bipush 30, 2) := by decide +kernel
theorem dX3_limit_23 : decode cX3_limit 23 = .ok (.invokevirtual 71, 3) := by decide +kernel
theorem dX3_limit_26 : decode cX3_limit 26 = .ok (.istore_n 3, 1) := by decide +kernel
theorem dX3_limit_27 : decode cX3_limit 27 = .ok (.aload_n 0, 1) := by decide +kernel
theorem dX3_limit_28 : decode cX3_limit 28 = .ok (.getfield 24, 3) := by decide +kernel
theorem dX3_limit_31 : decode cX3_limit 31 = .ok (.iload_n 1, 1) := by decide +kernel
theorem dX3_limit_32 : decode cX3_limit 32 = .ok (.aload_n 0, 1) := by decide +kernel
theorem dX3_limit_33 : decode cX3_limit 33 = .ok (.getfield 68, 3) := by decide +kernel
theorem dX3_limit_36 : decode cX3_limit 36 = .ok (.iload_n 2, 1) := by decide +kernel
theorem dX3_limit_37 : decode cX3_limit 37 = .ok (.invokevirtual 75, 3) := by decide +kernel
theorem dX3_limit_40 : decode cX3_limit 40 = .ok (.iload_n 3, 1) := by decide +kernel
theorem dX3_limit_41 : decode cX3_limit 41 = .ok (.ireturn, 1) := by decide +kernel
set_option maxRecDepth 20000 in
theorem ggX3_act_X3_needNumber : GoodIn wsX3_act wsX3_needNumber := goodIn_ca (goodIn_r _ [11, 12, 13] (by decide +kernel) (by decide +kernel)) (goodIn_sub (fun _ h => List.mem_cons_of_mem _ (List.mem_append_left _ (List.mem_append_right _ h))) (by decide +kernel))
set_option maxRecDepth 20000 in
theorem gX3_act_X3_needNumber : GoodIn wsX3_act (va_wsS RX3 60 yX3_needNumber wsX3_needNumber) := goodIn_app (goodIn_of _ (by decide +kernel)) ggX3_act_X3_needNumber
set_option maxRecDepth 20000 in
theorem ggX3_act_X3_needRange : GoodIn wsX3_act wsX3_needRange := goodIn_ca (goodIn_r _ [16, 17, 18] (by decide +kernel) (by decide +kernel)) (goodIn_sub (fun _ h => List.mem_cons_of_mem _ (List.mem_append_right _ h)) (by decide +kernel))
set_option maxRecDepth 20000 in
theorem gX3_act_X3_needRange : GoodIn wsX3_act (va_wsS RX3 79 yX3_needRange wsX3_needRange) := goodIn_app (goodIn_of _ (by decide +kernel)) ggX3_act_X3_needRange
set_option maxRecDepth 20000 in
theorem ggX3_act_X3_typedKind : GoodIn wsX3_act wsX3_typedKind := goodIn_r _ [22, 23, 24, 10, 25, 26, 27, 28, 29, 5, 30, 31, 32, 33, 34, 35, 36, 37, 38, 39, 40, 41, 42, 43, 44, 45, 46, 47, 48, 49, 50, 51, 52, 53, 54, 55, 56, 57, 58, 59, 60, 61, 62, 63, 64, 65, 66, 67, 68, 69, 70, 71, 72, 73, 74, 75, 76, 77, 78, 79, 104, 105, 106, 107, 108, 109, 110, 111, 112, 113, 114] (by decide +kernel) (by decide +kernel)
set_option maxRecDepth 20000 in
theorem gX3_act_X3_typedKind : GoodIn wsX3_act (wsV RX3 91 RX3 yX3_typedKind wsX3_typedKind) := goodIn_app (goodIn_of _ (by decide +kernel)) ggX3_act_X3_typedKind
set_option maxRecDepth 20000 in
theorem ggX3_act_X3_ownerOn : GoodIn wsX3_act wsX3_ownerOn := goodIn_r _ [83, 84, 85, 86, 87, 88, 89, 90, 91, 92, 93, 104, 105, 106, 107, 108, 109, 110, 111, 112, 113, 114, 115, 116, 117, 118] (by decide +kernel) (by decide +kernel)
set_option maxRecDepth 20000 in
theorem gX3_act_X3_ownerOn : GoodIn wsX3_act (wsV RX3 82 RX3 yX3_ownerOn wsX3_ownerOn) := goodIn_app (goodIn_of _ (by decide +kernel)) ggX3_act_X3_ownerOn
set_option maxRecDepth 20000 in
theorem ggX3_act_X0_begin : GoodIn wsX3_act wsX0_begin := goodIn_r _ [98, 99, 100, 101, 102, 103, 119, 120, 121, 122, 123, 124, 125, 126, 127] (by decide +kernel) (by decide +kernel)
set_option maxRecDepth 20000 in
theorem gX3_act_X0_begin : GoodIn wsX3_act (wsV RX3 95 RX0 yX0_begin wsX0_begin) := goodIn_app (goodIn_of _ (by decide +kernel)) ggX3_act_X0_begin
theorem dX3_act_0 : decode cX3_act 0 = .ok (.iload_n 1, 1) := by decide +kernel
theorem dX3_act_1 : decode cX3_act 1 = .ok (.aload_n 0, 1) := by decide +kernel
theorem dX3_act_2 : decode cX3_act 2 = .ok (.getfield 57, 3) := by decide +kernel
theorem dX3_act_5 : decode cX3_act 5 = .ok (.invokestatic 60, 3) := by decide +kernel
theorem dX3_act_8 : decode cX3_act 8 = .ok (.iload_n 2, 1) := by decide +kernel
theorem dX3_act_9 : decode cX3_act 9 = .ok (.iconst 0, 1) := by decide +kernel
theorem dX3_act_10 : decode cX3_act 10 = .ok (.bipush 100, 2) := by decide +kernel
theorem dX3_act_12 : decode cX3_act 12 = .ok (.invokestatic 79, 3) := by decide +kernel
theorem dX3_act_15 : decode cX3_act 15 = .ok (.iload_n 3, 1) := by decide +kernel
theorem dX3_act_16 : decode cX3_act 16 = .ok (.iconst 0, 1) := by decide +kernel
theorem dX3_act_17 : decode cX3_act 17 = .ok (.sipush 1000, 3) := by decide +kernel
theorem dX3_act_20 : decode cX3_act 20 = .ok (.invokestatic 79, 3) := by decide +kernel
theorem dX3_act_23 : decode cX3_act 23 = .ok (.aload_n 0, 1) := by decide +kernel
theorem dX3_act_24 : decode cX3_act 24 = .ok (.getfield 86, 3) := by decide +kernel
theorem dX3_act_27 : decode cX3_act 27 = .ok (.bipush 24, 2) := by decide +kernel
theorem dX3_act_29 : decode cX3_act 29 = .ok (.if_icmp .lt 13, 3) := by decide +kernel
theorem dX3_act_32 : decode cX3_act 32 = .ok (.new 52, 3) := by decide +kernel
theorem dX3_act_35 : decode cX3_act 35 = .ok (.dup, 1) := by decide +kernel
theorem dX3_act_36 : decode cX3_act 36 = .ok (.ldc 89, 2) := by decide +kernel
theorem dX3_act_38 : decode cX3_act 38 = .ok (.invokespecial 56, 3) := by decide +kernel
theorem dX3_act_41 : decode cX3_act 41 = .ok (.athrow, 1) := by decide +kernel
theorem dX3_act_42 : decode cX3_act 42 = .ok (.aload_n 0, 1) := by decide +kernel
theorem dX3_act_43 : decode cX3_act 43 = .ok (.invokevirtual 91, 3) := by decide +kernel
theorem dX3_act_46 : decode cX3_act 46 = .ok (.istore 4, 2) := by decide +kernel
theorem dX3_act_48 : decode cX3_act 48 = .ok (.aload_n 0, 1) := by decide +kernel
theorem dX3_act_49 : decode cX3_act 49 = .ok (.iconst 0, 1) := by decide +kernel
theorem dX3_act_50 : decode cX3_act 50 = .ok (.putfield 48, 3) := by decide +kernel
theorem dX3_act_53 : decode cX3_act 53 = .ok (.iload 4, 2) := by decide +kernel
theorem dX3_act_55 : decode cX3_act 55 = .ok (.iconst (-1), 1) := by decide +kernel
theorem dX3_act_56 : decode cX3_act 56 = .ok (.if_icmp .ne 5, 3) := by decide +kernel
theorem dX3_act_59 : decode cX3_act 59 = .ok (.iconst (-1), 1) := by decide +kernel
theorem dX3_act_60 : decode cX3_act 60 = .ok (.ireturn, 1) := by decide +kernel
theorem dX3_act_61 : decode cX3_act 61 = .ok (.aload_n 0, 1) := by decide +kernel
theorem dX3_act_62 : decode cX3_act 62 = .ok (.getfield 86, 3) := by decide +kernel
theorem dX3_act_65 : decode cX3_act 65 = .ok (.istore 5, 2) := by decide +kernel
theorem dX3_act_67 : decode cX3_act 67 = .ok (.aload_n 0, 1) := by decide +kernel
theorem dX3_act_68 : decode cX3_act 68 = .ok (.getfield 29, 3) := by decide +kernel
theorem dX3_act_71 : decode cX3_act 71 = .ok (.iload 5, 2) := by decide +kernel
theorem dX3_act_73 : decode cX3_act 73 = .ok (.aaload, 1) := by decide +kernel
theorem dX3_act_74 : decode cX3_act 74 = .ok (.aload_n 0, 1) := by decide +kernel
theorem dX3_act_75 : decode cX3_act 75 = .ok (.iload_n 1, 1) := by decide +kernel
theorem dX3_act_76 : decode cX3_act 76 = .ok (.aload_n 0, 1) := by decide +kernel
theorem dX3_act_77 : decode cX3_act 77 = .ok (.getfield 68, 3) := by decide +kernel
theorem dX3_act_80 : decode cX3_act 80 = .ok (.invokevirtual 82, 3) := by decide +kernel
theorem dX3_act_83 : decode cX3_act 83 = .ok (.iload 4, 2) := by decide +kernel
theorem dX3_act_85 : decode cX3_act 85 = .ok (.aload_n 0, 1) := by decide +kernel
theorem dX3_act_86 : decode cX3_act 86 = .ok (.getfield 68, 3) := by decide +kernel
theorem dX3_act_89 : decode cX3_act 89 = .ok (.iload_n 2, 1) := by decide +kernel
theorem dX3_act_90 : decode cX3_act 90 = .ok (.iload_n 3, 1) := by decide +kernel
theorem dX3_act_91 : decode cX3_act 91 = .ok (.invokevirtual 95, 3) := by decide +kernel
theorem dX3_act_94 : decode cX3_act 94 = .ok (.aload_n 0, 1) := by decide +kernel
theorem dX3_act_95 : decode cX3_act 95 = .ok (.dup, 1) := by decide +kernel
theorem dX3_act_96 : decode cX3_act 96 = .ok (.getfield 86, 3) := by decide +kernel
theorem dX3_act_99 : decode cX3_act 99 = .ok (.iconst 1, 1) := by decide +kernel
theorem dX3_act_100 : decode cX3_act 100 = .ok (.iadd, 1) := by decide +kernel
theorem dX3_act_101 : decode cX3_act 101 = .ok (.putfield 86, 3) := by decide +kernel
theorem dX3_act_104 : decode cX3_act 104 = .ok (.iload 5, 2) := by decide +kernel
theorem dX3_act_106 : decode cX3_act 106 = .ok (.ireturn, 1) := by decide +kernel
set_option maxRecDepth 20000 in
theorem ggX3_court_X3_needNumber : GoodIn wsX3_court wsX3_needNumber := goodIn_ca (goodIn_r _ [7, 8, 9] (by decide +kernel) (by decide +kernel)) (goodIn_sub (fun _ h => List.mem_cons_of_mem _ (List.mem_append_right _ h)) (by decide +kernel))
set_option maxRecDepth 20000 in
theorem gX3_court_X3_needNumber : GoodIn wsX3_court (va_wsS RX3 60 yX3_needNumber wsX3_needNumber) := goodIn_app (goodIn_of _ (by decide +kernel)) ggX3_court_X3_needNumber
theorem dX3_court_0 : decode cX3_court 0 = .ok (.iload_n 1, 1) := by decide +kernel
theorem dX3_court_1 : decode cX3_court 1 = .ok (.aload_n 0, 1) := by decide +kernel
theorem dX3_court_2 : decode cX3_court 2 = .ok (.getfield 86, 3) := by decide +kernel
theorem dX3_court_5 : decode cX3_court 5 = .ok (.invokestatic 60, 3) := by decide +kernel
theorem dX3_court_8 : decode cX3_court 8 = .ok (.aload_n 0, 1) := by decide +kernel
theorem dX3_court_9 : decode cX3_court 9 = .ok (.getfield 29, 3) := by decide +kernel
theorem dX3_court_12 : decode cX3_court 12 = .ok (.iload_n 1, 1) := by decide +kernel
theorem dX3_court_13 : decode cX3_court 13 = .ok (.aaload, 1) := by decide +kernel
theorem dX3_court_14 : decode cX3_court 14 = .ok (.getfield 99, 3) := by decide +kernel
theorem dX3_court_17 : decode cX3_court 17 = .ok (.istore_n 3, 1) := by decide +kernel
theorem dX3_court_18 : decode cX3_court 18 = .ok (.aload_n 0, 1) := by decide +kernel
theorem dX3_court_19 : decode cX3_court 19 = .ok (.getfield 29, 3) := by decide +kernel
theorem dX3_court_22 : decode cX3_court 22 = .ok (.iload_n 1, 1) := by decide +kernel
theorem dX3_court_23 : decode cX3_court 23 = .ok (.aaload, 1) := by decide +kernel
theorem dX3_court_24 : decode cX3_court 24 = .ok (.iload_n 2, 1) := by decide +kernel
theorem dX3_court_25 : decode cX3_court 25 = .ok (.putfield 99, 3) := by decide +kernel
theorem dX3_court_28 : decode cX3_court 28 = .ok (.iload_n 3, 1) := by decide +kernel
theorem dX3_court_29 : decode cX3_court 29 = .ok (.ireturn, 1) := by decide +kernel
set_option maxRecDepth 20000 in
theorem ggX3_waive_X3_needNumber : GoodIn wsX3_waive wsX3_needNumber := goodIn_ca (goodIn_r _ [7, 8, 9] (by decide +kernel) (by decide +kernel)) (goodIn_sub (fun _ h => List.mem_cons_of_mem _ (List.mem_append_right _ h)) (by decide +kernel))
set_option maxRecDepth 20000 in
theorem gX3_waive_X3_needNumber : GoodIn wsX3_waive (va_wsS RX3 60 yX3_needNumber wsX3_needNumber) := goodIn_app (goodIn_of _ (by decide +kernel)) ggX3_waive_X3_needNumber
theorem dX3_waive_0 : decode cX3_waive 0 = .ok (.iload_n 1, 1) := by decide +kernel
theorem dX3_waive_1 : decode cX3_waive 1 = .ok (.aload_n 0, 1) := by decide +kernel
theorem dX3_waive_2 : decode cX3_waive 2 = .ok (.getfield 86, 3) := by decide +kernel
theorem dX3_waive_5 : decode cX3_waive 5 = .ok (.invokestatic 60, 3) := by decide +kernel
theorem dX3_waive_8 : decode cX3_waive 8 = .ok (.aload_n 0, 1) := by decide +kernel
theorem dX3_waive_9 : decode cX3_waive 9 = .ok (.getfield 29, 3) := by decide +kernel
theorem dX3_waive_12 : decode cX3_waive 12 = .ok (.iload_n 1, 1) := by decide +kernel
theorem dX3_waive_13 : decode cX3_waive 13 = .ok (.aaload, 1) := by decide +kernel
theorem dX3_waive_14 : decode cX3_waive 14 = .ok (.getfield 103, 3) := by decide +kernel
theorem dX3_waive_17 : decode cX3_waive 17 = .ok (.istore_n 3, 1) := by decide +kernel
theorem dX3_waive_18 : decode cX3_waive 18 = .ok (.aload_n 0, 1) := by decide +kernel
theorem dX3_waive_19 : decode cX3_waive 19 = .ok (.getfield 29, 3) := by decide +kernel
theorem dX3_waive_22 : decode cX3_waive 22 = .ok (.iload_n 1, 1) := by decide +kernel
theorem dX3_waive_23 : decode cX3_waive 23 = .ok (.aaload, 1) := by decide +kernel
theorem dX3_waive_24 : decode cX3_waive 24 = .ok (.iload_n 2, 1) := by decide +kernel
theorem dX3_waive_25 : decode cX3_waive 25 = .ok (.putfield 103, 3) := by decide +kernel
theorem dX3_waive_28 : decode cX3_waive 28 = .ok (.iload_n 3, 1) := by decide +kernel
theorem dX3_waive_29 : decode cX3_waive 29 = .ok (.ireturn, 1) := by decide +kernel
set_option maxRecDepth 20000 in
theorem ggX3_plea_X3_needNumber : GoodIn wsX3_plea wsX3_needNumber := goodIn_ca (goodIn_r _ [10, 11, 12] (by decide +kernel) (by decide +kernel)) (goodIn_sub (fun _ h => List.mem_cons_of_mem _ (List.mem_append_right _ h)) (by decide +kernel))
set_option maxRecDepth 20000 in
theorem gX3_plea_X3_needNumber : GoodIn wsX3_plea (va_wsS RX3 60 yX3_needNumber wsX3_needNumber) := goodIn_app (goodIn_of _ (by decide +kernel)) ggX3_plea_X3_needNumber
theorem dX3_plea_0 : decode cX3_plea 0 = .ok (.iload_n 1, 1) := by decide +kernel
theorem dX3_plea_1 : decode cX3_plea 1 = .ok (.bipush 10, 2) := by decide +kernel
theorem dX3_plea_3 : decode cX3_plea 3 = .ok (.invokestatic 60, 3) := by decide +kernel
theorem dX3_plea_6 : decode cX3_plea 6 = .ok (.iload_n 2, 1) := by decide +kernel
theorem dX3_plea_7 : decode cX3_plea 7 = .ok (.aload_n 0, 1) := by decide +kernel
theorem dX3_plea_8 : decode cX3_plea 8 = .ok (.getfield 86, 3) := by decide +kernel
theorem dX3_plea_11 : decode cX3_plea 11 = .ok (.invokestatic 60, 3) := by decide +kernel
theorem dX3_plea_14 : decode cX3_plea 14 = .ok (.aload_n 0, 1) := by decide +kernel
theorem dX3_plea_15 : decode cX3_plea 15 = .ok (.getfield 29, 3) := by decide +kernel
theorem dX3_plea_18 : decode cX3_plea 18 = .ok (.iload_n 2, 1) := by decide +kernel
theorem dX3_plea_19 : decode cX3_plea 19 = .ok (.aaload, 1) := by decide +kernel
theorem dX3_plea_20 : decode cX3_plea 20 = .ok (.getfield 106, 3) := by decide +kernel
theorem dX3_plea_23 : decode cX3_plea 23 = .ok (.iload_n 1, 1) := by decide +kernel
theorem dX3_plea_24 : decode cX3_plea 24 = .ok (.iaload, 1) := by decide +kernel
theorem dX3_plea_25 : decode cX3_plea 25 = .ok (.iconst (-1), 1) := by decide +kernel
theorem dX3_plea_26 : decode cX3_plea 26 = .ok (.if_icmp .eq 13, 3) := by decide +kernel
theorem dX3_plea_29 : decode cX3_plea 29 = .ok (.new 52, 3) := by decide +kernel
theorem dX3_plea_32 : decode cX3_plea 32 = .ok (.dup, 1) := by decide +kernel
theorem dX3_plea_33 : decode cX3_plea 33 = .ok (.ldc 109, 2) := by decide +kernel
theorem dX3_plea_35 : decode cX3_plea 35 = .ok (.invokespecial 56, 3) := by decide +kernel
theorem dX3_plea_38 : decode cX3_plea 38 = .ok (.athrow, 1) := by decide +kernel
theorem dX3_plea_39 : decode cX3_plea 39 = .ok (.aload_n 0, 1) := by decide +kernel
theorem dX3_plea_40 : decode cX3_plea 40 = .ok (.getfield 29, 3) := by decide +kernel
theorem dX3_plea_43 : decode cX3_plea 43 = .ok (.iload_n 2, 1) := by decide +kernel
theorem dX3_plea_44 : decode cX3_plea 44 = .ok (.aaload, 1) := by decide +kernel
theorem dX3_plea_45 : decode cX3_plea 45 = .ok (.getfield 106, 3) := by decide +kernel
theorem dX3_plea_48 : decode cX3_plea 48 = .ok (.iload_n 1, 1) := by decide +kernel
theorem dX3_plea_49 : decode cX3_plea 49 = .ok (.aload_n 0, 1) := by decide +kernel
theorem dX3_plea_50 : decode cX3_plea 50 = .ok (.getfield 68, 3) := by decide +kernel
theorem dX3_plea_53 : decode cX3_plea 53 = .ok (.iastore, 1) := by decide +kernel
theorem dX3_plea_54 : decode cX3_plea 54 = .ok (.return_, 1) := by decide +kernel
set_option maxRecDepth 20000 in
theorem ggX3_bar_X3_needNumber : GoodIn wsX3_bar wsX3_needNumber := goodIn_ca (goodIn_r _ [7, 8, 9] (by decide +kernel) (by decide +kernel)) (goodIn_sub (fun _ h => List.mem_cons_of_mem _ (List.mem_append_right _ h)) (by decide +kernel))
set_option maxRecDepth 20000 in
theorem gX3_bar_X3_needNumber : GoodIn wsX3_bar (va_wsS RX3 60 yX3_needNumber wsX3_needNumber) := goodIn_app (goodIn_of _ (by decide +kernel)) ggX3_bar_X3_needNumber
set_option maxRecDepth 20000 in
theorem ggX3_bar_X0_barOn : GoodIn wsX3_bar wsX0_barOn := goodIn_r _ [14, 15, 16, 17, 18, 30, 31, 32, 33, 34, 35, 36, 37, 38] (by decide +kernel) (by decide +kernel)
set_option maxRecDepth 20000 in
theorem gX3_bar_X0_barOn : GoodIn wsX3_bar (wsV RX3 111 RX0 yX0_barOn wsX0_barOn) := goodIn_app (goodIn_of _ (by decide +kernel)) ggX3_bar_X0_barOn
theorem dX3_bar_0 : decode cX3_bar 0 = .ok (.iload_n 1, 1) := by decide +kernel
theorem dX3_bar_1 : decode cX3_bar 1 = .ok (.bipush 10, 2) := by decide +kernel
theorem dX3_bar_3 : decode cX3_bar 3 = .ok (.invokestatic 60, 3) := by decide +kernel
theorem dX3_bar_6 : decode cX3_bar 6 = .ok (.iload_n 2, 1) := by decide +kernel
theorem dX3_bar_7 : decode cX3_bar 7 = .ok (.aload_n 0, 1) := by decide +kernel
theorem dX3_bar_8 : decode cX3_bar 8 = .ok (.getfield 86, 3) := by decide +kernel
theorem dX3_bar_11 : decode cX3_bar 11 = .ok (.invokestatic 60, 3) := by decide +kernel
theorem dX3_bar_14 : decode cX3_bar 14 = .ok (.aload_n 0, 1) := by decide +kernel
theorem dX3_bar_15 : decode cX3_bar 15 = .ok (.getfield 29, 3) := by decide +kernel
theorem dX3_bar_18 : decode cX3_bar 18 = .ok (.iload_n 2, 1) := by decide +kernel
theorem dX3_bar_19 : decode cX3_bar 19 = .ok (.aaload, 1) := by decide +kernel
theorem dX3_bar_20 : decode cX3_bar 20 = .ok (.iload_n 1, 1) := by decide +kernel
theorem dX3_bar_21 : decode cX3_bar 21 = .ok (.aload_n 0, 1) := by decide +kernel
theorem dX3_bar_22 : decode cX3_bar 22 = .ok (.getfield 68, 3) := by decide +kernel
theorem dX3_bar_25 : decode cX3_bar 25 = .ok (.invokevirtual 111, 3) := by decide +kernel
theorem dX3_bar_28 : decode cX3_bar 28 = .ok (.ireturn, 1) := by decide +kernel
set_option maxRecDepth 20000 in
theorem ggX3_complain_X3_needNumber : GoodIn wsX3_complain wsX3_needNumber := goodIn_ca (goodIn_r _ [10, 11, 12] (by decide +kernel) (by decide +kernel)) (goodIn_sub (fun _ h => List.mem_cons_of_mem _ (List.mem_append_right _ h)) (by decide +kernel))
set_option maxRecDepth 20000 in
theorem gX3_complain_X3_needNumber : GoodIn wsX3_complain (va_wsS RX3 60 yX3_needNumber wsX3_needNumber) := goodIn_app (goodIn_of _ (by decide +kernel)) ggX3_complain_X3_needNumber
set_option maxRecDepth 20000 in
theorem ggX3_complain_X0_barOn : GoodIn wsX3_complain wsX0_barOn := goodIn_r _ [17, 18, 19, 20, 21, 59, 60, 61, 62, 63, 64, 65, 66, 67] (by decide +kernel) (by decide +kernel)
set_option maxRecDepth 20000 in
theorem gX3_complain_X0_barOn : GoodIn wsX3_complain (wsV RX3 111 RX0 yX0_barOn wsX0_barOn) := goodIn_app (goodIn_of _ (by decide +kernel)) ggX3_complain_X0_barOn
set_option maxRecDepth 20000 in
theorem ggX3_complain_X3_complaintToJoin : GoodIn wsX3_complain wsX3_complaintToJoin := goodIn_r _ [25, 26, 6, 27, 28, 48, 49, 50, 51, 52, 53, 54, 55, 56, 57, 58, 68, 69, 70, 71, 72, 73, 74, 75] (by decide +kernel) (by decide +kernel)
set_option maxRecDepth 20000 in
theorem gX3_complain_X3_complaintToJoin : GoodIn wsX3_complain (wsV RX3 116 RX3 yX3_complaintToJoin wsX3_complaintToJoin) := goodIn_app (goodIn_of _ (by decide +kernel)) ggX3_complain_X3_complaintToJoin
set_option maxRecDepth 20000 in
theorem ggX3_complain_X3_beginComplaint : GoodIn wsX3_complain wsX3_beginComplaint := goodIn_ca (goodIn_r _ [32, 1, 2, 26, 6, 33, 34, 35, 36, 37, 38, 39, 40, 41, 42, 48, 49, 50, 51, 52, 53, 54, 55, 56, 57, 58, 68, 69, 70, 71, 72, 73, 74, 75] (by decide +kernel) (by decide +kernel)) (goodIn_sub (fun _ h => List.mem_cons_of_mem _ (List.mem_append_left _ (List.mem_append_right _ h))) (by decide +kernel))
set_option maxRecDepth 20000 in
theorem gX3_complain_X3_beginComplaint : GoodIn wsX3_complain (wsV RX3 120 RX3 yX3_beginComplaint wsX3_beginComplaint) := goodIn_app (goodIn_of _ (by decide +kernel)) ggX3_complain_X3_beginComplaint
set_option maxRecDepth 20000 in
theorem ggX3_complain_X2_join : GoodIn wsX3_complain wsX2_join := goodIn_r _ [46, 47, 68, 69, 70, 71, 72, 73, 74, 75] (by decide +kernel) (by decide +kernel)
set_option maxRecDepth 20000 in
theorem gX3_complain_X2_join : GoodIn wsX3_complain (wsV RX3 123 RX2 yX2_join wsX2_join) := goodIn_app (goodIn_of _ (by decide +kernel)) ggX3_complain_X2_join
theorem dX3_complain_0 : decode cX3_complain 0 = .ok (.iload_n 1, 1) := by decide +kernel
theorem dX3_complain_1 : decode cX3_complain 1 = .ok (.bipush 10, 2) := by decide +kernel
theorem dX3_complain_3 : decode cX3_complain 3 = .ok (.invokestatic 60, 3) := by decide +kernel
theorem dX3_complain_6 : decode cX3_complain 6 = .ok (.iload_n 2, 1) := by decide +kernel
theorem dX3_complain_7 : decode cX3_complain 7 = .ok (.aload_n 0, 1) := by decide +kernel
theorem dX3_complain_8 : decode cX3_complain 8 = .ok (.getfield 86, 3) := by decide +kernel
theorem dX3_complain_11 : decode cX3_complain 11 = .ok (.invokestatic 60, 3) := by decide +kernel
theorem dX3_complain_14 : decode cX3_complain 14 = .ok (.aload_n 0, 1) := by decide +kernel
theorem dX3_complain_15 : decode cX3_complain 15 = .ok (.getfield 29, 3) := by decide +kernel
theorem dX3_complain_18 : decode cX3_complain 18 = .ok (.iload_n 2, 1) := by decide +kernel
theorem dX3_complain_19 : decode cX3_complain 19 = .ok (.aaload, 1) := by decide +kernel
theorem dX3_complain_20 : decode cX3_complain 20 = .ok (.iload_n 1, 1) := by decide +kernel
theorem dX3_complain_21 : decode cX3_complain 21 = .ok (.aload_n 0, 1) := by decide +kernel
theorem dX3_complain_22 : decode cX3_complain 22 = .ok (.getfield 68, 3) := by decide +kernel
theorem dX3_complain_25 : decode cX3_complain 25 = .ok (.invokevirtual 111, 3) := by decide +kernel
theorem dX3_complain_28 : decode cX3_complain 28 = .ok (.ifCond .eq 13, 3) := by decide +kernel
theorem dX3_complain_31 : decode cX3_complain 31 = .ok (.new 52, 3) := by decide +kernel
theorem dX3_complain_34 : decode cX3_complain 34 = .ok (.dup, 1) := by decide +kernel
theorem dX3_complain_35 : decode cX3_complain 35 = .ok (.ldc 114, 2) := by decide +kernel
theorem dX3_complain_37 : decode cX3_complain 37 = .ok (.invokespecial 56, 3) := by decide +kernel
theorem dX3_complain_40 : decode cX3_complain 40 = .ok (.athrow, 1) := by decide +kernel
theorem dX3_complain_41 : decode cX3_complain 41 = .ok (.aload_n 0, 1) := by decide +kernel
theorem dX3_complain_42 : decode cX3_complain 42 = .ok (.iload_n 2, 1) := by decide +kernel
theorem dX3_complain_43 : decode cX3_complain 43 = .ok (.invokevirtual 116, 3) := by decide +kernel
theorem dX3_complain_46 : decode cX3_complain 46 = .ok (.istore_n 3, 1) := by decide +kernel
theorem dX3_complain_47 : decode cX3_complain 47 = .ok (.iload_n 3, 1) := by decide +kernel
theorem dX3_complain_48 : decode cX3_complain 48 = .ok (.iconst (-1), 1) := by decide +kernel
theorem dX3_complain_49 : decode cX3_complain 49 = .ok (.if_icmp .ne 9, 3) := by decide +kernel
theorem dX3_complain_52 : decode cX3_complain 52 = .ok (.aload_n 0, 1) := by decide +kernel
theorem dX3_complain_53 : decode cX3_complain 53 = .ok (.iload_n 2, 1) := by decide +kernel
theorem dX3_complain_54 : decode cX3_complain 54 = .ok (.invokevirtual 120, 3) := by decide +kernel
theorem dX3_complain_57 : decode cX3_complain 57 = .ok (.istore_n 3, 1) := by decide +kernel
theorem dX3_complain_58 : decode cX3_complain 58 = .ok (.aload_n 0, 1) := by decide +kernel
theorem dX3_complain_59 : decode cX3_complain 59 = .ok (.getfield 36, 3) := by decide +kernel
theorem dX3_complain_62 : decode cX3_complain 62 = .ok (.iload_n 3, 1) := by decide +kernel
theorem dX3_complain_63 : decode cX3_complain 63 = .ok (.aaload, 1) := by decide +kernel
theorem dX3_complain_64 : decode cX3_complain 64 = .ok (.iload_n 1, 1) := by decide +kernel
theorem dX3_complain_65 : decode cX3_complain 65 = .ok (.invokevirtual 123, 3) := by decide +kernel
theorem dX3_complain_68 : decode cX3_complain 68 = .ok (.iload_n 3, 1) := by decide +kernel
theorem dX3_complain_69 : decode cX3_complain 69 = .ok (.ireturn, 1) := by decide +kernel
set_option maxRecDepth 20000 in
theorem ggX3_ask_X3_needNumber : GoodIn wsX3_ask wsX3_needNumber := goodIn_ca (goodIn_r _ [15, 16, 17] (by decide +kernel) (by decide +kernel)) (goodIn_sub (fun _ h => List.mem_cons_of_mem _ (List.mem_append_right _ h)) (by decide +kernel))
set_option maxRecDepth 20000 in
theorem gX3_ask_X3_needNumber : GoodIn wsX3_ask (va_wsS RX3 60 yX3_needNumber wsX3_needNumber) := goodIn_app (goodIn_of _ (by decide +kernel)) ggX3_ask_X3_needNumber
theorem dX3_ask_0 : decode cX3_ask 0 = .ok (.iload_n 1, 1) := by decide +kernel
theorem dX3_ask_1 : decode cX3_ask 1 = .ok (.aload_n 0, 1) := by decide +kernel
theorem dX3_ask_2 : decode cX3_ask 2 = .ok (.getfield 127, 3) := by decide +kernel
theorem dX3_ask_5 : decode cX3_ask 5 = .ok (.invokestatic 60, 3) := by decide +kernel
theorem dX3_ask_8 : decode cX3_ask 8 = .ok (.aload_n 0, 1) := by decide +kernel
theorem dX3_ask_9 : decode cX3_ask 9 = .ok (.getfield 36, 3) := by decide +kernel
theorem dX3_ask_12 : decode cX3_ask 12 = .ok (.iload_n 1, 1) := by decide +kernel
theorem dX3_ask_13 : decode cX3_ask 13 = .ok (.aaload, 1) := by decide +kernel
theorem dX3_ask_14 : decode cX3_ask 14 = .ok (.astore_n 2, 1) := by decide +kernel
theorem dX3_ask_15 : decode cX3_ask 15 = .ok (.aload_n 2, 1) := by decide +kernel
theorem dX3_ask_16 : decode cX3_ask 16 = .ok (.getfield 130, 3) := by decide +kernel
theorem dX3_ask_19 : decode cX3_ask 19 = .ok (.ifCond .ne 10, 3) := by decide +kernel
theorem dX3_ask_22 : decode cX3_ask 22 = .ok (.aload_n 2, 1) := by decide +kernel
theorem dX3_ask_23 : decode cX3_ask 23 = .ok (.getfield 133, 3) := by decide +kernel
theorem dX3_ask_26 : decode cX3_ask 26 = .ok (.ifCond .eq 13, 3) := by decide +kernel
theorem dX3_ask_29 : decode cX3_ask 29 = .ok (.new 52, 3) := by decide +kernel
theorem dX3_ask_32 : decode cX3_ask 32 = .ok (.dup, 1) := by decide +kernel
theorem dX3_ask_33 : decode cX3_ask 33 = .ok (.ldc 136, 2) := by decide +kernel
theorem dX3_ask_35 : decode cX3_ask 35 = .ok (.invokespecial 56, 3) := by decide +kernel
theorem dX3_ask_38 : decode cX3_ask 38 = .ok (.athrow, 1) := by decide +kernel
theorem dX3_ask_39 : decode cX3_ask 39 = .ok (.aload_n 2, 1) := by decide +kernel
theorem dX3_ask_40 : decode cX3_ask 40 = .ok (.iconst 1, 1) := by decide +kernel
theorem dX3_ask_41 : decode cX3_ask 41 = .ok (.putfield 133, 3) := by decide +kernel
theorem dX3_ask_44 : decode cX3_ask 44 = .ok (.aload_n 2, 1) := by decide +kernel
theorem dX3_ask_45 : decode cX3_ask 45 = .ok (.aload_n 0, 1) := by decide +kernel
theorem dX3_ask_46 : decode cX3_ask 46 = .ok (.getfield 68, 3) := by decide +kernel
theorem dX3_ask_49 : decode cX3_ask 49 = .ok (.putfield 138, 3) := by decide +kernel
theorem dX3_ask_52 : decode cX3_ask 52 = .ok (.aload_n 0, 1) := by decide +kernel
theorem dX3_ask_53 : decode cX3_ask 53 = .ok (.getfield 29, 3) := by decide +kernel
theorem dX3_ask_56 : decode cX3_ask 56 = .ok (.aload_n 2, 1) := by decide +kernel
theorem dX3_ask_57 : decode cX3_ask 57 = .ok (.getfield 141, 3) := by decide +kernel
theorem dX3_ask_60 : decode cX3_ask 60 = .ok (.aaload, 1) := by decide +kernel
theorem dX3_ask_61 : decode cX3_ask 61 = .ok (.getfield 144, 3) := by decide +kernel
theorem dX3_ask_64 : decode cX3_ask 64 = .ok (.ireturn, 1) := by decide +kernel
set_option maxRecDepth 20000 in
theorem ggX3_answer_X3_needNumber : GoodIn wsX3_answer wsX3_needNumber := goodIn_ca (goodIn_r _ [11, 12, 13] (by decide +kernel) (by decide +kernel)) (goodIn_sub (fun _ h => List.mem_cons_of_mem _ (List.mem_append_right _ h)) (by decide +kernel))
set_option maxRecDepth 20000 in
theorem gX3_answer_X3_needNumber : GoodIn wsX3_answer (va_wsS RX3 60 yX3_needNumber wsX3_needNumber) := goodIn_app (goodIn_of _ (by decide +kernel)) ggX3_answer_X3_needNumber
theorem dX3_answer_0 : decode cX3_answer 0 = .ok (.iload_n 1, 1) := by decide +kernel
theorem dX3_answer_1 : decode cX3_answer 1 = .ok (.aload_n 0, 1) := by decide +kernel
theorem dX3_answer_2 : decode cX3_answer 2 = .ok (.getfield 127, 3) := by decide +kernel
theorem dX3_answer_5 : decode cX3_answer 5 = .ok (.invokestatic 60, 3) := by decide +kernel
theorem dX3_answer_8 : decode cX3_answer 8 = .ok (.aload_n 0, 1) := by decide +kernel
theorem dX3_answer_9 : decode cX3_answer 9 = .ok (.getfield 36, 3) := by decide +kernel
theorem dX3_answer_12 : decode cX3_answer 12 = .ok (.iload_n 1, 1) := by decide +kernel
theorem dX3_answer_13 : decode cX3_answer 13 = .ok (.aaload, 1) := by decide +kernel
theorem dX3_answer_14 : decode cX3_answer 14 = .ok (.astore_n 2, 1) := by decide +kernel
theorem dX3_answer_15 : decode cX3_answer 15 = .ok (.aload_n 2, 1) := by decide +kernel
theorem dX3_answer_16 : decode cX3_answer 16 = .ok (.getfield 133, 3) := by decide +kernel
theorem dX3_answer_19 : decode cX3_answer 19 = .ok (.iconst 1, 1) := by decide +kernel
theorem dX3_answer_20 : decode cX3_answer 20 = .ok (.if_icmp .eq 13, 3) := by decide +kernel
theorem dX3_answer_23 : decode cX3_answer 23 = .ok (.new 52, 3) := by decide +kernel
theorem dX3_answer_26 : decode cX3_answer 26 = .ok (.dup, 1) := by decide +kernel
theorem dX3_answer_27 : decode cX3_answer 27 = .ok (.ldc 147, 2) := by decide +kernel
theorem dX3_answer_29 : decode cX3_answer 29 = .ok (.invokespecial 56, 3) := by decide +kernel
theorem dX3_answer_32 : decode cX3_answer 32 = .ok (.athrow, 1) := by decide +kernel
theorem dX3_answer_33 : decode cX3_answer 33 = .ok (.aload_n 2, 1) := by decide +kernel
theorem dX3_answer_34 : decode cX3_answer 34 = .ok (.iconst 2, 1) := by decide +kernel
theorem dX3_answer_35 : decode cX3_answer 35 = .ok (.putfield 133, 3) := by decide +kernel
theorem dX3_answer_38 : decode cX3_answer 38 = .ok (.aload_n 0, 1) := by decide +kernel
theorem dX3_answer_39 : decode cX3_answer 39 = .ok (.getfield 68, 3) := by decide +kernel
theorem dX3_answer_42 : decode cX3_answer 42 = .ok (.aload_n 2, 1) := by decide +kernel
theorem dX3_answer_43 : decode cX3_answer 43 = .ok (.getfield 138, 3) := by decide +kernel
theorem dX3_answer_46 : decode cX3_answer 46 = .ok (.isub, 1) := by decide +kernel
theorem dX3_answer_47 : decode cX3_answer 47 = .ok (.ireturn, 1) := by decide +kernel
set_option maxRecDepth 20000 in
theorem ggX3_hear_X3_needNumber : GoodIn wsX3_hear wsX3_needNumber := goodIn_ca (goodIn_r _ [11, 12, 13] (by decide +kernel) (by decide +kernel)) (goodIn_sub (fun _ h => List.mem_cons_of_mem _ (List.mem_append_right _ h)) (by decide +kernel))
set_option maxRecDepth 20000 in
theorem gX3_hear_X3_needNumber : GoodIn wsX3_hear (va_wsS RX3 60 yX3_needNumber wsX3_needNumber) := goodIn_app (goodIn_of _ (by decide +kernel)) ggX3_hear_X3_needNumber
theorem dX3_hear_0 : decode cX3_hear 0 = .ok (.iload_n 1, 1) := by decide +kernel
theorem dX3_hear_1 : decode cX3_hear 1 = .ok (.aload_n 0, 1) := by decide +kernel
theorem dX3_hear_2 : decode cX3_hear 2 = .ok (.getfield 127, 3) := by decide +kernel
theorem dX3_hear_5 : decode cX3_hear 5 = .ok (.invokestatic 60, 3) := by decide +kernel
theorem dX3_hear_8 : decode cX3_hear 8 = .ok (.aload_n 0, 1) := by decide +kernel
theorem dX3_hear_9 : decode cX3_hear 9 = .ok (.getfield 36, 3) := by decide +kernel
theorem dX3_hear_12 : decode cX3_hear 12 = .ok (.iload_n 1, 1) := by decide +kernel
theorem dX3_hear_13 : decode cX3_hear 13 = .ok (.aaload, 1) := by decide +kernel
theorem dX3_hear_14 : decode cX3_hear 14 = .ok (.astore_n 2, 1) := by decide +kernel
theorem dX3_hear_15 : decode cX3_hear 15 = .ok (.aload_n 2, 1) := by decide +kernel
theorem dX3_hear_16 : decode cX3_hear 16 = .ok (.getfield 130, 3) := by decide +kernel
theorem dX3_hear_19 : decode cX3_hear 19 = .ok (.ifCond .ne 18, 3) := by decide +kernel
theorem dX3_hear_22 : decode cX3_hear 22 = .ok (.aload_n 2, 1) := by decide +kernel
theorem dX3_hear_23 : decode cX3_hear 23 = .ok (.getfield 133, 3) := by decide +kernel
theorem dX3_hear_26 : decode cX3_hear 26 = .ok (.iconst 2, 1) := by decide +kernel
theorem dX3_hear_27 : decode cX3_hear 27 = .ok (.if_icmp .ne 10, 3) := by decide +kernel
theorem dX3_hear_30 : decode cX3_hear 30 = .ok (.aload_n 2, 1) := by decide +kernel
theorem dX3_hear_31 : decode cX3_hear 31 = .ok (.getfield 149, 3) := by decide +kernel
theorem dX3_hear_34 : decode cX3_hear 34 = .ok (.ifCond .eq 13, 3) := by decide +kernel
theorem dX3_hear_37 : decode cX3_hear 37 = .ok (.new 52, 3) := by decide +kernel
theorem dX3_hear_40 : decode cX3_hear 40 = .ok (.dup, 1) := by decide +kernel
theorem dX3_hear_41 : decode cX3_hear 41 = .ok (.ldc 152, 2) := by decide +kernel
theorem dX3_hear_43 : decode cX3_hear 43 = .ok (.invokespecial 56, 3) := by decide +kernel
theorem dX3_hear_46 : decode cX3_hear 46 = .ok (.athrow, 1) := by decide +kernel
theorem dX3_hear_47 : decode cX3_hear 47 = .ok (.aload_n 2, 1) := by decide +kernel
theorem dX3_hear_48 : decode cX3_hear 48 = .ok (.iconst 1, 1) := by decide +kernel
theorem dX3_hear_49 : decode cX3_hear 49 = .ok (.putfield 149, 3) := by decide +kernel
theorem dX3_hear_52 : decode cX3_hear 52 = .ok (.return_, 1) := by decide +kernel
set_option maxRecDepth 20000 in
theorem ggX3_find_X3_needNumber : GoodIn wsX3_find wsX3_needNumber := goodIn_ca (goodIn_r _ [12, 13, 14] (by decide +kernel) (by decide +kernel)) (goodIn_sub (fun _ h => List.mem_cons_of_mem _ (List.mem_append_right _ h)) (by decide +kernel))
set_option maxRecDepth 20000 in
theorem gX3_find_X3_needNumber : GoodIn wsX3_find (va_wsS RX3 60 yX3_needNumber wsX3_needNumber) := goodIn_app (goodIn_of _ (by decide +kernel)) ggX3_find_X3_needNumber
set_option maxRecDepth 20000 in
theorem ggX3_find_X3_faultOf : GoodIn wsX3_find wsX3_faultOf := goodIn_r _ [18, 19, 20, 21, 11, 22, 23, 24, 25, 26, 27, 28, 29, 30, 31, 32, 33, 34, 35, 36, 37, 38, 39, 40, 41, 42, 43, 44, 45, 46, 47, 48, 49, 50, 51, 52, 53, 54, 55, 56, 57, 58, 59, 60, 61, 62, 63, 64, 65, 74, 75, 76, 77, 78, 79, 80, 81, 82, 83, 84, 85, 86] (by decide +kernel) (by decide +kernel)
set_option maxRecDepth 20000 in
theorem gX3_find_X3_faultOf : GoodIn wsX3_find (wsV RX3 156 RX3 yX3_faultOf wsX3_faultOf) := goodIn_app (goodIn_of _ (by decide +kernel)) ggX3_find_X3_faultOf
theorem dX3_find_0 : decode cX3_find 0 = .ok (.iload_n 1, 1) := by decide +kernel
theorem dX3_find_1 : decode cX3_find 1 = .ok (.aload_n 0, 1) := by decide +kernel
theorem dX3_find_2 : decode cX3_find 2 = .ok (.getfield 127, 3) := by decide +kernel
theorem dX3_find_5 : decode cX3_find 5 = .ok (.invokestatic 60, 3) := by decide +kernel
theorem dX3_find_8 : decode cX3_find 8 = .ok (.aload_n 0, 1) := by decide +kernel
theorem dX3_find_9 : decode cX3_find 9 = .ok (.getfield 36, 3) := by decide +kernel
theorem dX3_find_12 : decode cX3_find 12 = .ok (.iload_n 1, 1) := by decide +kernel
theorem dX3_find_13 : decode cX3_find 13 = .ok (.aaload, 1) := by decide +kernel
theorem dX3_find_14 : decode cX3_find 14 = .ok (.astore_n 2, 1) := by decide +kernel
theorem dX3_find_15 : decode cX3_find 15 = .ok (.aload_n 2, 1) := by decide +kernel
theorem dX3_find_16 : decode cX3_find 16 = .ok (.getfield 130, 3) := by decide +kernel
theorem dX3_find_19 : decode cX3_find 19 = .ok (.ifCond .ne 10, 3) := by decide +kernel
theorem dX3_find_22 : decode cX3_find 22 = .ok (.aload_n 2, 1) := by decide +kernel
theorem dX3_find_23 : decode cX3_find 23 = .ok (.getfield 149, 3) := by decide +kernel
theorem dX3_find_26 : decode cX3_find 26 = .ok (.ifCond .ne 13, 3) := by decide +kernel
theorem dX3_find_29 : decode cX3_find 29 = .ok (.new 52, 3) := by decide +kernel
theorem dX3_find_32 : decode cX3_find 32 = .ok (.dup, 1) := by decide +kernel
theorem dX3_find_33 : decode cX3_find 33 = .ok (.ldc 154, 2) := by decide +kernel
theorem dX3_find_35 : decode cX3_find 35 = .ok (.invokespecial 56, 3) := by decide +kernel
theorem dX3_find_38 : decode cX3_find 38 = .ok (.athrow, 1) := by decide +kernel
theorem dX3_find_39 : decode cX3_find 39 = .ok (.aload_n 2, 1) := by decide +kernel
theorem dX3_find_40 : decode cX3_find 40 = .ok (.aload_n 0, 1) := by decide +kernel
theorem dX3_find_41 : decode cX3_find 41 = .ok (.aload_n 2, 1) := by decide +kernel
theorem dX3_find_42 : decode cX3_find 42 = .ok (.getfield 141, 3) := by decide +kernel
theorem dX3_find_45 : decode cX3_find 45 = .ok (.invokevirtual 156, 3) := by decide +kernel
theorem dX3_find_48 : decode cX3_find 48 = .ok (.putfield 159, 3) := by decide +kernel
theorem dX3_find_51 : decode cX3_find 51 = .ok (.aload_n 2, 1) := by decide +kernel
theorem dX3_find_52 : decode cX3_find 52 = .ok (.iconst 1, 1) := by decide +kernel
theorem dX3_find_53 : decode cX3_find 53 = .ok (.putfield 130, 3) := by decide +kernel
theorem dX3_find_56 : decode cX3_find 56 = .ok (.aload_n 2, 1) := by decide +kernel
theorem dX3_find_57 : decode cX3_find 57 = .ok (.getfield 159, 3) := by decide +kernel
theorem dX3_find_60 : decode cX3_find 60 = .ok (.ireturn, 1) := by decide +kernel
set_option maxRecDepth 20000 in
theorem ggX3_remedy_X3_needNumber : GoodIn wsX3_remedy wsX3_needNumber := goodIn_ca (goodIn_r _ [13, 14, 15] (by decide +kernel) (by decide +kernel)) (goodIn_sub (fun _ h => List.mem_cons_of_mem _ (List.mem_append_left _ (List.mem_append_right _ h))) (by decide +kernel))
set_option maxRecDepth 20000 in
theorem gX3_remedy_X3_needNumber : GoodIn wsX3_remedy (va_wsS RX3 60 yX3_needNumber wsX3_needNumber) := goodIn_app (goodIn_of _ (by decide +kernel)) ggX3_remedy_X3_needNumber
set_option maxRecDepth 20000 in
theorem ggX3_remedy_X3_needRange : GoodIn wsX3_remedy wsX3_needRange := goodIn_ca (goodIn_r _ [18, 19, 20] (by decide +kernel) (by decide +kernel)) (goodIn_sub (fun _ h => List.mem_cons_of_mem _ (List.mem_append_right _ h)) (by decide +kernel))
set_option maxRecDepth 20000 in
theorem gX3_remedy_X3_needRange : GoodIn wsX3_remedy (va_wsS RX3 79 yX3_needRange wsX3_needRange) := goodIn_app (goodIn_of _ (by decide +kernel)) ggX3_remedy_X3_needRange
set_option maxRecDepth 20000 in
theorem ggX3_remedy_X3_isLike : GoodIn wsX3_remedy wsX3_isLike := goodIn_r _ [24, 9, 25, 26, 66, 67, 68, 69, 70, 71, 72, 73, 74, 75, 76, 85, 86, 87, 88, 89, 90, 91, 92, 93] (by decide +kernel) (by decide +kernel)
set_option maxRecDepth 20000 in
theorem gX3_remedy_X3_isLike : GoodIn wsX3_remedy (wsV RX3 164 RX3 yX3_isLike wsX3_isLike) := goodIn_app (goodIn_of _ (by decide +kernel)) ggX3_remedy_X3_isLike
set_option maxRecDepth 20000 in
theorem ggX3_remedy_X3_faultOf : GoodIn wsX3_remedy wsX3_faultOf := goodIn_r _ [30, 31, 32, 33, 12, 34, 9, 35, 36, 25, 37, 38, 39, 40, 41, 42, 43, 44, 45, 46, 47, 48, 49, 50, 51, 52, 53, 54, 7, 21, 22, 23, 24, 26, 55, 56, 57, 58, 66, 67, 68, 69, 70, 71, 72, 73, 74, 75, 76, 85, 86, 87, 88, 89, 90, 91, 92, 93, 94, 95, 96, 97] (by decide +kernel) (by decide +kernel)
set_option maxRecDepth 20000 in
theorem gX3_remedy_X3_faultOf : GoodIn wsX3_remedy (wsV RX3 156 RX3 yX3_faultOf wsX3_faultOf) := goodIn_app (goodIn_of _ (by decide +kernel)) ggX3_remedy_X3_faultOf
set_option maxRecDepth 20000 in
theorem ggX3_remedy_X0_giveRemedy : GoodIn wsX3_remedy wsX0_giveRemedy := goodIn_r _ [63, 64, 65, 85, 86, 87, 88, 89, 90, 91, 92, 93] (by decide +kernel) (by decide +kernel)
set_option maxRecDepth 20000 in
theorem gX3_remedy_X0_giveRemedy : GoodIn wsX3_remedy (wsV RX3 168 RX0 yX0_giveRemedy wsX0_giveRemedy) := goodIn_app (goodIn_of _ (by decide +kernel)) ggX3_remedy_X0_giveRemedy
theorem dX3_remedy_0 : decode cX3_remedy 0 = .ok (.iload_n 1, 1) := by decide +kernel
theorem dX3_remedy_1 : decode cX3_remedy 1 = .ok (.aload_n 0, 1) := by decide +kernel
theorem dX3_remedy_2 : decode cX3_remedy 2 = .ok (.getfield 127, 3) := by decide +kernel
theorem dX3_remedy_5 : decode cX3_remedy 5 = .ok (.invokestatic 60, 3) := by decide +kernel
theorem dX3_remedy_8 : decode cX3_remedy 8 = .ok (.iload_n 2, 1) := by decide +kernel
theorem dX3_remedy_9 : decode cX3_remedy 9 = .ok (.iconst 0, 1) := by decide +kernel
theorem dX3_remedy_10 : decode cX3_remedy 10 = .ok (.bipush 100, 2) := by decide +kernel
theorem dX3_remedy_12 : decode cX3_remedy 12 = .ok (.invokestatic 79, 3) := by decide +kernel
theorem dX3_remedy_15 : decode cX3_remedy 15 = .ok (.aload_n 0, 1) := by decide +kernel
theorem dX3_remedy_16 : decode cX3_remedy 16 = .ok (.getfield 36, 3) := by decide +kernel
theorem dX3_remedy_19 : decode cX3_remedy 19 = .ok (.iload_n 1, 1) := by decide +kernel
theorem dX3_remedy_20 : decode cX3_remedy 20 = .ok (.aaload, 1) := by decide +kernel
theorem dX3_remedy_21 : decode cX3_remedy 21 = .ok (.astore_n 3, 1) := by decide +kernel
theorem dX3_remedy_22 : decode cX3_remedy 22 = .ok (.aload_n 3, 1) := by decide +kernel
theorem dX3_remedy_23 : decode cX3_remedy 23 = .ok (.getfield 130, 3) := by decide +kernel
theorem dX3_remedy_26 : decode cX3_remedy 26 = .ok (.iconst 1, 1) := by decide +kernel
theorem dX3_remedy_27 : decode cX3_remedy 27 = .ok (.if_icmp .ne 10, 3) := by decide +kernel
theorem dX3_remedy_30 : decode cX3_remedy 30 = .ok (.aload_n 3, 1) := by decide +kernel
theorem dX3_remedy_31 : decode cX3_remedy 31 = .ok (.getfield 159, 3) := by decide +kernel
theorem dX3_remedy_34 : decode cX3_remedy 34 = .ok (.ifCond .ne 13, 3) := by decide +kernel
theorem dX3_remedy_37 : decode cX3_remedy 37 = .ok (.new 52, 3) := by decide +kernel
theorem dX3_remedy_40 : decode cX3_remedy 40 = .ok (.dup, 1) := by decide +kernel
theorem dX3_remedy_41 : decode cX3_remedy 41 = .ok (.ldc 162, 2) := by decide +kernel
theorem dX3_remedy_43 : decode cX3_remedy 43 = .ok (.invokespecial 56, 3) := by decide +kernel
theorem dX3_remedy_46 : decode cX3_remedy 46 = .ok (.athrow, 1) := by decide +kernel
theorem dX3_remedy_47 : decode cX3_remedy 47 = .ok (.iconst 0, 1) := by decide +kernel
theorem dX3_remedy_48 : decode cX3_remedy 48 = .ok (.istore 4, 2) := by decide +kernel
theorem dX3_remedy_50 : decode cX3_remedy 50 = .ok (.iconst 0, 1) := by decide +kernel
theorem dX3_remedy_51 : decode cX3_remedy 51 = .ok (.istore 5, 2) := by decide +kernel
theorem dX3_remedy_53 : decode cX3_remedy 53 = .ok (.iload 5, 2) := by decide +kernel
theorem dX3_remedy_55 : decode cX3_remedy 55 = .ok (.aload_n 0, 1) := by decide +kernel
theorem dX3_remedy_56 : decode cX3_remedy 56 = .ok (.getfield 86, 3) := by decide +kernel
theorem dX3_remedy_59 : decode cX3_remedy 59 = .ok (.if_icmp .ge 54, 3) := by decide +kernel
theorem dX3_remedy_62 : decode cX3_remedy 62 = .ok (.iload 5, 2) := by decide +kernel
theorem dX3_remedy_64 : decode cX3_remedy 64 = .ok (.aload_n 3, 1) := by decide +kernel
theorem dX3_remedy_65 : decode cX3_remedy 65 = .ok (.getfield 141, 3) := by decide +kernel
theorem dX3_remedy_68 : decode cX3_remedy 68 = .ok (.if_icmp .eq 25, 3) := by decide +kernel
theorem dX3_remedy_71 : decode cX3_remedy 71 = .ok (.aload_n 0, 1) := by decide +kernel
theorem dX3_remedy_72 : decode cX3_remedy 72 = .ok (.aload_n 3, 1) := by decide +kernel
theorem dX3_remedy_73 : decode cX3_remedy 73 = .ok (.getfield 141, 3) := by decide +kernel
theorem dX3_remedy_76 : decode cX3_remedy 76 = .ok (.iload 5, 2) := by decide +kernel
theorem dX3_remedy_78 : decode cX3_remedy 78 = .ok (.invokevirtual 164, 3) := by decide +kernel
theorem dX3_remedy_81 : decode cX3_remedy 81 = .ok (.ifCond .eq 26, 3) := by decide +kernel
theorem dX3_remedy_84 : decode cX3_remedy 84 = .ok (.aload_n 0, 1) := by decide +kernel
theorem dX3_remedy_85 : decode cX3_remedy 85 = .ok (.iload 5, 2) := by decide +kernel
theorem dX3_remedy_87 : decode cX3_remedy 87 = .ok (.invokevirtual 156, 3) := by decide +kernel
theorem dX3_remedy_90 : decode cX3_remedy 90 = .ok (.ifCond .eq 17, 3) := by decide +kernel
theorem dX3_remedy_93 : decode cX3_remedy 93 = .ok (.aload_n 0, 1) := by decide +kernel
theorem dX3_remedy_94 : decode cX3_remedy 94 = .ok (.getfield 29, 3) := by decide +kernel
theorem dX3_remedy_97 : decode cX3_remedy 97 = .ok (.iload 5, 2) := by decide +kernel
theorem dX3_remedy_99 : decode cX3_remedy 99 = .ok (.aaload, 1) := by decide +kernel
theorem dX3_remedy_100 : decode cX3_remedy 100 = .ok (.iload_n 2, 1) := by decide +kernel
theorem dX3_remedy_101 : decode cX3_remedy 101 = .ok (.invokevirtual 168, 3) := by decide +kernel
theorem dX3_remedy_104 : decode cX3_remedy 104 = .ok (.iinc 4 1, 3) := by decide +kernel
theorem dX3_remedy_107 : decode cX3_remedy 107 = .ok (.iinc 5 1, 3) := by decide +kernel
theorem dX3_remedy_110 : decode cX3_remedy 110 = .ok (.goto (-57), 3) := by decide +kernel
theorem dX3_remedy_113 : decode cX3_remedy 113 = .ok (.iload 4, 2) := by decide +kernel
theorem dX3_remedy_115 : decode cX3_remedy 115 = .ok (.ireturn, 1) := by decide +kernel
set_option maxRecDepth 20000 in
theorem ggX3_pass_X3_needRange : GoodIn wsX3_pass wsX3_needRange := goodIn_ca (goodIn_r _ [9, 10, 11] (by decide +kernel) (by decide +kernel)) (goodIn_sub (fun _ h => List.mem_cons_of_mem _ (List.mem_append_right _ h)) (by decide +kernel))
set_option maxRecDepth 20000 in
theorem gX3_pass_X3_needRange : GoodIn wsX3_pass (va_wsS RX3 79 yX3_needRange wsX3_needRange) := goodIn_app (goodIn_of _ (by decide +kernel)) ggX3_pass_X3_needRange
set_option maxRecDepth 20000 in
theorem ggX3_pass_X2_letDaysGoBy : GoodIn wsX3_pass wsX2_letDaysGoBy := goodIn_r _ [16, 17, 18, 19, 20, 21, 22, 23, 35, 36, 37, 38, 39, 40, 41, 42] (by decide +kernel) (by decide +kernel)
set_option maxRecDepth 20000 in
theorem gX3_pass_X2_letDaysGoBy : GoodIn wsX3_pass (wsV RX3 173 RX2 yX2_letDaysGoBy wsX2_letDaysGoBy) := goodIn_app (goodIn_of _ (by decide +kernel)) ggX3_pass_X2_letDaysGoBy
theorem dX3_pass_0 : decode cX3_pass 0 = .ok (.iload_n 1, 1) := by decide +kernel
theorem dX3_pass_1 : decode cX3_pass 1 = .ok (.iconst 1, 1) := by decide +kernel
theorem dX3_pass_2 : decode cX3_pass 2 = .ok (.bipush 100, 2) := by decide +kernel
theorem dX3_pass_4 : decode cX3_pass 4 = .ok (.invokestatic 79, 3) := by decide +kernel
theorem dX3_pass_7 : decode cX3_pass 7 = .ok (.aload_n 0, 1) := by decide +kernel
theorem dX3_pass_8 : decode cX3_pass 8 = .ok (.getfield 68, 3) := by decide +kernel
theorem dX3_pass_11 : decode cX3_pass 11 = .ok (.iload_n 1, 1) := by decide +kernel
theorem dX3_pass_12 : decode cX3_pass 12 = .ok (.iadd, 1) := by decide +kernel
theorem dX3_pass_13 : decode cX3_pass 13 = .ok (.sipush 5000, 3) := by decide +kernel
theorem dX3_pass_16 : decode cX3_pass 16 = .ok (.if_icmp .le 13, 3) := by decide +kernel
theorem dX3_pass_19 : decode cX3_pass 19 = .ok (.new 52, 3) := by decide +kernel
theorem dX3_pass_22 : decode cX3_pass 22 = .ok (.dup, 1) := by decide +kernel
theorem dX3_pass_23 : decode cX3_pass 23 = .ok (.ldc 171, 2) := by decide +kernel
theorem dX3_pass_25 : decode cX3_pass 25 = .ok (.invokespecial 56, 3) := by decide +kernel
theorem dX3_pass_28 : decode cX3_pass 28 = .ok (.athrow, 1) := by decide +kernel
theorem dX3_pass_29 : decode cX3_pass 29 = .ok (.aload_n 0, 1) := by decide +kernel
theorem dX3_pass_30 : decode cX3_pass 30 = .ok (.dup, 1) := by decide +kernel
theorem dX3_pass_31 : decode cX3_pass 31 = .ok (.getfield 68, 3) := by decide +kernel
theorem dX3_pass_34 : decode cX3_pass 34 = .ok (.iload_n 1, 1) := by decide +kernel
theorem dX3_pass_35 : decode cX3_pass 35 = .ok (.iadd, 1) := by decide +kernel
theorem dX3_pass_36 : decode cX3_pass 36 = .ok (.putfield 68, 3) := by decide +kernel
theorem dX3_pass_39 : decode cX3_pass 39 = .ok (.iconst 0, 1) := by decide +kernel
theorem dX3_pass_40 : decode cX3_pass 40 = .ok (.istore_n 2, 1) := by decide +kernel
theorem dX3_pass_41 : decode cX3_pass 41 = .ok (.iload_n 2, 1) := by decide +kernel
theorem dX3_pass_42 : decode cX3_pass 42 = .ok (.aload_n 0, 1) := by decide +kernel
theorem dX3_pass_43 : decode cX3_pass 43 = .ok (.getfield 127, 3) := by decide +kernel
theorem dX3_pass_46 : decode cX3_pass 46 = .ok (.if_icmp .ge 19, 3) := by decide +kernel
theorem dX3_pass_49 : decode cX3_pass 49 = .ok (.aload_n 0, 1) := by decide +kernel
theorem dX3_pass_50 : decode cX3_pass 50 = .ok (.getfield 36, 3) := by decide +kernel
theorem dX3_pass_53 : decode cX3_pass 53 = .ok (.iload_n 2, 1) := by decide +kernel
theorem dX3_pass_54 : decode cX3_pass 54 = .ok (.aaload, 1) := by decide +kernel
theorem dX3_pass_55 : decode cX3_pass 55 = .ok (.iload_n 1, 1) := by decide +kernel
theorem dX3_pass_56 : decode cX3_pass 56 = .ok (.invokevirtual 173, 3) := by decide +kernel
theorem dX3_pass_59 : decode cX3_pass 59 = .ok (.iinc 2 1, 3) := by decide +kernel
theorem dX3_pass_62 : decode cX3_pass 62 = .ok (.goto (-21), 3) := by decide +kernel
theorem dX3_pass_65 : decode cX3_pass 65 = .ok (.aload_n 0, 1) := by decide +kernel
theorem dX3_pass_66 : decode cX3_pass 66 = .ok (.getfield 68, 3) := by decide +kernel
theorem dX3_pass_69 : decode cX3_pass 69 = .ok (.ireturn, 1) := by decide +kernel
set_option maxRecDepth 20000 in
theorem ggX3_about_X3_needNumber : GoodIn wsX3_about wsX3_needNumber := goodIn_ca (goodIn_r _ [12, 13, 14] (by decide +kernel) (by decide +kernel)) (goodIn_sub (fun _ h => List.mem_cons_of_mem _ (List.mem_append_left _ (List.mem_append_right _ h))) (by decide +kernel))
set_option maxRecDepth 20000 in
theorem gX3_about_X3_needNumber : GoodIn wsX3_about (va_wsS RX3 60 yX3_needNumber wsX3_needNumber) := goodIn_app (goodIn_of _ (by decide +kernel)) ggX3_about_X3_needNumber
set_option maxRecDepth 20000 in
theorem ggX3_about_X3_needRange : GoodIn wsX3_about wsX3_needRange := goodIn_ca (goodIn_r _ [17, 18, 19] (by decide +kernel) (by decide +kernel)) (goodIn_sub (fun _ h => List.mem_cons_of_mem _ (List.mem_append_right _ h)) (by decide +kernel))
set_option maxRecDepth 20000 in
theorem gX3_about_X3_needRange : GoodIn wsX3_about (va_wsS RX3 79 yX3_needRange wsX3_needRange) := goodIn_app (goodIn_of _ (by decide +kernel)) ggX3_about_X3_needRange
set_option maxRecDepth 20000 in
theorem ggX3_about_J6_bitCount_0f7a4 : GoodIn wsX3_about wsJ6_bitCount_0f7a4 := goodIn_r _ [23, 24, 25, 26] (by decide +kernel) (by decide +kernel)
set_option maxRecDepth 20000 in
theorem gX3_about_J6_bitCount_0f7a4 : GoodIn wsX3_about (va_wsS RX3 182 yJ6_bitCount_0f7a4 wsJ6_bitCount_0f7a4) := goodIn_app (goodIn_of _ (by decide +kernel)) ggX3_about_J6_bitCount_0f7a4
theorem dX3_about_0 : decode cX3_about 0 = .ok (.iload_n 1, 1) := by decide +kernel
theorem dX3_about_1 : decode cX3_about 1 = .ok (.aload_n 0, 1) := by decide +kernel
theorem dX3_about_2 : decode cX3_about 2 = .ok (.getfield 127, 3) := by decide +kernel
theorem dX3_about_5 : decode cX3_about 5 = .ok (.invokestatic 60, 3) := by decide +kernel
theorem dX3_about_8 : decode cX3_about 8 = .ok (.iload_n 2, 1) := by decide +kernel
theorem dX3_about_9 : decode cX3_about 9 = .ok (.iconst 0, 1) := by decide +kernel
theorem dX3_about_10 : decode cX3_about 10 = .ok (.iconst 5, 1) := by decide +kernel
theorem dX3_about_11 : decode cX3_about 11 = .ok (.invokestatic 79, 3) := by decide +kernel
theorem dX3_about_14 : decode cX3_about 14 = .ok (.aload_n 0, 1) := by decide +kernel
theorem dX3_about_15 : decode cX3_about 15 = .ok (.getfield 36, 3) := by decide +kernel
theorem dX3_about_18 : decode cX3_about 18 = .ok (.iload_n 1, 1) := by decide +kernel
theorem dX3_about_19 : decode cX3_about 19 = .ok (.aaload, 1) := by decide +kernel
theorem dX3_about_20 : decode cX3_about 20 = .ok (.astore_n 3, 1) := by decide +kernel
theorem dX3_about_21 : decode cX3_about 21 = .ok (.iload_n 2, 1) := by decide +kernel
theorem dX3_about_22 : decode cX3_about 22 = .ok (.tableswitch 71 0 4 #[34, 39, 44, 49, 57], 34) := by decide +kernel
theorem dX3_about_56 : decode cX3_about 56 = .ok (.aload_n 3, 1) := by decide +kernel
theorem dX3_about_57 : decode cX3_about 57 = .ok (.getfield 130, 3) := by decide +kernel
theorem dX3_about_60 : decode cX3_about 60 = .ok (.ireturn, 1) := by decide +kernel
theorem dX3_about_61 : decode cX3_about 61 = .ok (.aload_n 3, 1) := by decide +kernel
theorem dX3_about_62 : decode cX3_about 62 = .ok (.getfield 141, 3) := by decide +kernel
theorem dX3_about_65 : decode cX3_about 65 = .ok (.ireturn, 1) := by decide +kernel
theorem dX3_about_66 : decode cX3_about 66 = .ok (.aload_n 3, 1) := by decide +kernel
theorem dX3_about_67 : decode cX3_about 67 = .ok (.getfield 176, 3) := by decide +kernel
theorem dX3_about_70 : decode cX3_about 70 = .ok (.ireturn, 1) := by decide +kernel
theorem dX3_about_71 : decode cX3_about 71 = .ok (.aload_n 3, 1) := by decide +kernel
theorem dX3_about_72 : decode cX3_about 72 = .ok (.getfield 179, 3) := by decide +kernel
theorem dX3_about_75 : decode cX3_about 75 = .ok (.invokestatic 182, 3) := by decide +kernel
theorem dX3_about_78 : decode cX3_about 78 = .ok (.ireturn, 1) := by decide +kernel
theorem dX3_about_79 : decode cX3_about 79 = .ok (.aload_n 3, 1) := by decide +kernel
theorem dX3_about_80 : decode cX3_about 80 = .ok (.getfield 133, 3) := by decide +kernel
theorem dX3_about_83 : decode cX3_about 83 = .ok (.iconst 1, 1) := by decide +kernel
theorem dX3_about_84 : decode cX3_about 84 = .ok (.if_icmp .ne 7, 3) := by decide +kernel
theorem dX3_about_87 : decode cX3_about 87 = .ok (.iconst 1, 1) := by decide +kernel
theorem dX3_about_88 : decode cX3_about 88 = .ok (.goto 4, 3) := by decide +kernel
theorem dX3_about_91 : decode cX3_about 91 = .ok (.iconst 0, 1) := by decide +kernel
theorem dX3_about_92 : decode cX3_about 92 = .ok (.ireturn, 1) := by decide +kernel
theorem dX3_about_93 : decode cX3_about 93 = .ok (.aload_n 3, 1) := by decide +kernel
theorem dX3_about_94 : decode cX3_about 94 = .ok (.getfield 159, 3) := by decide +kernel
theorem dX3_about_97 : decode cX3_about 97 = .ok (.ireturn, 1) := by decide +kernel
set_option maxRecDepth 20000 in
theorem ggX3_reminder_X3_needNumber : GoodIn wsX3_reminder wsX3_needNumber := goodIn_ca (goodIn_r _ [12, 13, 14] (by decide +kernel) (by decide +kernel)) (goodIn_sub (fun _ h => List.mem_cons_of_mem _ (List.mem_append_right _ h)) (by decide +kernel))
set_option maxRecDepth 20000 in
theorem gX3_reminder_X3_needNumber : GoodIn wsX3_reminder (va_wsS RX3 60 yX3_needNumber wsX3_needNumber) := goodIn_app (goodIn_of _ (by decide +kernel)) ggX3_reminder_X3_needNumber
set_option maxRecDepth 20000 in
theorem ggX3_reminder_X3_climbFrom : GoodIn wsX3_reminder wsX3_climbFrom := goodIn_r _ [18, 19, 20, 21, 22, 23, 24, 25, 26, 27, 28, 29, 30] (by decide +kernel) (by decide +kernel)
set_option maxRecDepth 20000 in
theorem gX3_reminder_X3_climbFrom : GoodIn wsX3_reminder (wsV RX3 187 RX3 yX3_climbFrom wsX3_climbFrom) := goodIn_app (goodIn_of _ (by decide +kernel)) ggX3_reminder_X3_climbFrom
theorem dX3_reminder_0 : decode cX3_reminder 0 = .ok (.iload_n 1, 1) := by decide +kernel
theorem dX3_reminder_1 : decode cX3_reminder 1 = .ok (.aload_n 0, 1) := by decide +kernel
theorem dX3_reminder_2 : decode cX3_reminder 2 = .ok (.getfield 127, 3) := by decide +kernel
theorem dX3_reminder_5 : decode cX3_reminder 5 = .ok (.invokestatic 60, 3) := by decide +kernel
theorem dX3_reminder_8 : decode cX3_reminder 8 = .ok (.aload_n 0, 1) := by decide +kernel
theorem dX3_reminder_9 : decode cX3_reminder 9 = .ok (.getfield 36, 3) := by decide +kernel
theorem dX3_reminder_12 : decode cX3_reminder 12 = .ok (.iload_n 1, 1) := by decide +kernel
theorem dX3_reminder_13 : decode cX3_reminder 13 = .ok (.aaload, 1) := by decide +kernel
theorem dX3_reminder_14 : decode cX3_reminder 14 = .ok (.astore_n 2, 1) := by decide +kernel
theorem dX3_reminder_15 : decode cX3_reminder 15 = .ok (.aload_n 2, 1) := by decide +kernel
theorem dX3_reminder_16 : decode cX3_reminder 16 = .ok (.getfield 133, 3) := by decide +kernel
theorem dX3_reminder_19 : decode cX3_reminder 19 = .ok (.iconst 1, 1) := by decide +kernel
theorem dX3_reminder_20 : decode cX3_reminder 20 = .ok (.if_icmp .eq 5, 3) := by decide +kernel
theorem dX3_reminder_23 : decode cX3_reminder 23 = .ok (.iconst (-1), 1) := by decide +kernel
theorem dX3_reminder_24 : decode cX3_reminder 24 = .ok (.ireturn, 1) := by decide +kernel
theorem dX3_reminder_25 : decode cX3_reminder 25 = .ok (.aload_n 0, 1) := by decide +kernel
theorem dX3_reminder_26 : decode cX3_reminder 26 = .ok (.aload_n 0, 1) := by decide +kernel
theorem dX3_reminder_27 : decode cX3_reminder 27 = .ok (.getfield 29, 3) := by decide +kernel
theorem dX3_reminder_30 : decode cX3_reminder 30 = .ok (.aload_n 2, 1) := by decide +kernel
theorem dX3_reminder_31 : decode cX3_reminder 31 = .ok (.getfield 141, 3) := by decide +kernel
theorem dX3_reminder_34 : decode cX3_reminder 34 = .ok (.aaload, 1) := by decide +kernel
theorem dX3_reminder_35 : decode cX3_reminder 35 = .ok (.getfield 144, 3) := by decide +kernel
theorem dX3_reminder_38 : decode cX3_reminder 38 = .ok (.aload_n 0, 1) := by decide +kernel
theorem dX3_reminder_39 : decode cX3_reminder 39 = .ok (.getfield 68, 3) := by decide +kernel
theorem dX3_reminder_42 : decode cX3_reminder 42 = .ok (.aload_n 2, 1) := by decide +kernel
theorem dX3_reminder_43 : decode cX3_reminder 43 = .ok (.getfield 138, 3) := by decide +kernel
theorem dX3_reminder_46 : decode cX3_reminder 46 = .ok (.isub, 1) := by decide +kernel
theorem dX3_reminder_47 : decode cX3_reminder 47 = .ok (.bipush 10, 2) := by decide +kernel
theorem dX3_reminder_49 : decode cX3_reminder 49 = .ok (.idiv, 1) := by decide +kernel
theorem dX3_reminder_50 : decode cX3_reminder 50 = .ok (.invokevirtual 187, 3) := by decide +kernel
theorem dX3_reminder_53 : decode cX3_reminder 53 = .ok (.ireturn, 1) := by decide +kernel
set_option maxRecDepth 20000 in
theorem ggX3_fault_X3_needNumber : GoodIn wsX3_fault wsX3_needNumber := goodIn_ca (goodIn_r _ [5, 6, 7] (by decide +kernel) (by decide +kernel)) (goodIn_sub (fun _ h => List.mem_cons_of_mem _ (List.mem_append_right _ h)) (by decide +kernel))
set_option maxRecDepth 20000 in
theorem gX3_fault_X3_needNumber : GoodIn wsX3_fault (va_wsS RX3 60 yX3_needNumber wsX3_needNumber) := goodIn_app (goodIn_of _ (by decide +kernel)) ggX3_fault_X3_needNumber
set_option maxRecDepth 20000 in
theorem ggX3_fault_X3_faultOf : GoodIn wsX3_fault wsX3_faultOf := goodIn_r _ [11, 12, 13, 14, 4, 15, 16, 17, 18, 19, 20, 21, 22, 23, 24, 25, 26, 27, 28, 29, 30, 31, 32, 33, 34, 35, 36, 37, 1, 38, 39, 40, 41, 42, 43, 44, 45, 46, 47, 48, 49, 50, 51, 52, 53, 54, 55, 56, 57, 58, 59, 60, 61, 62, 63, 64, 65, 66, 67, 68, 69, 70] (by decide +kernel) (by decide +kernel)
set_option maxRecDepth 20000 in
theorem gX3_fault_X3_faultOf : GoodIn wsX3_fault (wsV RX3 156 RX3 yX3_faultOf wsX3_faultOf) := goodIn_app (goodIn_of _ (by decide +kernel)) ggX3_fault_X3_faultOf
theorem dX3_fault_0 : decode cX3_fault 0 = .ok (.iload_n 1, 1) := by decide +kernel
theorem dX3_fault_1 : decode cX3_fault 1 = .ok (.aload_n 0, 1) := by decide +kernel
theorem dX3_fault_2 : decode cX3_fault 2 = .ok (.getfield 86, 3) := by decide +kernel
theorem dX3_fault_5 : decode cX3_fault 5 = .ok (.invokestatic 60, 3) := by decide +kernel
theorem dX3_fault_8 : decode cX3_fault 8 = .ok (.aload_n 0, 1) := by decide +kernel
theorem dX3_fault_9 : decode cX3_fault 9 = .ok (.iload_n 1, 1) := by decide +kernel
theorem dX3_fault_10 : decode cX3_fault 10 = .ok (.invokevirtual 156, 3) := by decide +kernel
theorem dX3_fault_13 : decode cX3_fault 13 = .ok (.ireturn, 1) := by decide +kernel
set_option maxRecDepth 20000 in
theorem ggX3_likes_X3_needNumber : GoodIn wsX3_likes wsX3_needNumber := goodIn_ca (goodIn_r _ [5, 6, 7] (by decide +kernel) (by decide +kernel)) (goodIn_sub (fun _ h => List.mem_cons_of_mem _ (List.mem_append_right _ h)) (by decide +kernel))
set_option maxRecDepth 20000 in
theorem gX3_likes_X3_needNumber : GoodIn wsX3_likes (va_wsS RX3 60 yX3_needNumber wsX3_needNumber) := goodIn_app (goodIn_of _ (by decide +kernel)) ggX3_likes_X3_needNumber
set_option maxRecDepth 20000 in
theorem ggX3_likes_X3_countLikes : GoodIn wsX3_likes wsX3_countLikes := goodIn_r _ [11, 1, 12, 13, 14, 4, 15, 16, 17, 18, 19, 20, 21, 22, 23, 24, 25, 26, 27, 28, 29, 30, 31, 32, 33, 34, 35, 36, 37, 38] (by decide +kernel) (by decide +kernel)
set_option maxRecDepth 20000 in
theorem gX3_likes_X3_countLikes : GoodIn wsX3_likes (wsV RX3 190 RX3 yX3_countLikes wsX3_countLikes) := goodIn_app (goodIn_of _ (by decide +kernel)) ggX3_likes_X3_countLikes
theorem dX3_likes_0 : decode cX3_likes 0 = .ok (.iload_n 1, 1) := by decide +kernel
theorem dX3_likes_1 : decode cX3_likes 1 = .ok (.aload_n 0, 1) := by decide +kernel
theorem dX3_likes_2 : decode cX3_likes 2 = .ok (.getfield 86, 3) := by decide +kernel
theorem dX3_likes_5 : decode cX3_likes 5 = .ok (.invokestatic 60, 3) := by decide +kernel
theorem dX3_likes_8 : decode cX3_likes 8 = .ok (.aload_n 0, 1) := by decide +kernel
theorem dX3_likes_9 : decode cX3_likes 9 = .ok (.iload_n 1, 1) := by decide +kernel
theorem dX3_likes_10 : decode cX3_likes 10 = .ok (.invokevirtual 190, 3) := by decide +kernel
theorem dX3_likes_13 : decode cX3_likes 13 = .ok (.ireturn, 1) := by decide +kernel
set_option maxRecDepth 20000 in
theorem ggX3_remedied_X3_needNumber : GoodIn wsX3_remedied wsX3_needNumber := goodIn_ca (goodIn_r _ [7, 8, 9] (by decide +kernel) (by decide +kernel)) (goodIn_sub (fun _ h => List.mem_cons_of_mem _ (List.mem_append_right _ h)) (by decide +kernel))
set_option maxRecDepth 20000 in
theorem gX3_remedied_X3_needNumber : GoodIn wsX3_remedied (va_wsS RX3 60 yX3_needNumber wsX3_needNumber) := goodIn_app (goodIn_of _ (by decide +kernel)) ggX3_remedied_X3_needNumber
theorem dX3_remedied_0 : decode cX3_remedied 0 = .ok (.iload_n 1, 1) := by decide +kernel
theorem dX3_remedied_1 : decode cX3_remedied 1 = .ok (.aload_n 0, 1) := by decide +kernel
theorem dX3_remedied_2 : decode cX3_remedied 2 = .ok (.getfield 86, 3) := by decide +kernel
theorem dX3_remedied_5 : decode cX3_remedied 5 = .ok (.invokestatic 60, 3) := by decide +kernel
theorem dX3_remedied_8 : decode cX3_remedied 8 = .ok (.aload_n 0, 1) := by decide +kernel
theorem dX3_remedied_9 : decode cX3_remedied 9 = .ok (.getfield 29, 3) := by decide +kernel
theorem dX3_remedied_12 : decode cX3_remedied 12 = .ok (.iload_n 1, 1) := by decide +kernel
theorem dX3_remedied_13 : decode cX3_remedied 13 = .ok (.aaload, 1) := by decide +kernel
theorem dX3_remedied_14 : decode cX3_remedied 14 = .ok (.getfield 193, 3) := by decide +kernel
theorem dX3_remedied_17 : decode cX3_remedied 17 = .ok (.ireturn, 1) := by decide +kernel
set_option maxRecDepth 20000 in
theorem ggX3_gains_X3_needNumber : GoodIn wsX3_gains wsX3_needNumber := goodIn_ca (goodIn_r _ [8, 9, 10] (by decide +kernel) (by decide +kernel)) (goodIn_sub (fun _ h => List.mem_cons_of_mem _ (List.mem_append_left _ (List.mem_append_right _ h))) (by decide +kernel))
set_option maxRecDepth 20000 in
theorem gX3_gains_X3_needNumber : GoodIn wsX3_gains (va_wsS RX3 60 yX3_needNumber wsX3_needNumber) := goodIn_app (goodIn_of _ (by decide +kernel)) ggX3_gains_X3_needNumber
set_option maxRecDepth 20000 in
theorem ggX3_gains_X3_needRange : GoodIn wsX3_gains wsX3_needRange := goodIn_ca (goodIn_r _ [13, 14, 15] (by decide +kernel) (by decide +kernel)) (goodIn_sub (fun _ h => List.mem_cons_of_mem _ (List.mem_append_right _ h)) (by decide +kernel))
set_option maxRecDepth 20000 in
theorem gX3_gains_X3_needRange : GoodIn wsX3_gains (va_wsS RX3 79 yX3_needRange wsX3_needRange) := goodIn_app (goodIn_of _ (by decide +kernel)) ggX3_gains_X3_needRange
set_option maxRecDepth 20000 in
theorem ggX3_gains_X3_failsRule : GoodIn wsX3_gains wsX3_failsRule := goodIn_r _ [19, 2, 4, 20, 3, 21, 22, 23, 24, 25, 26, 27, 28, 29, 30, 31, 32, 33, 34, 35, 36, 37, 38, 39, 40, 41, 42, 43, 44, 45, 46, 47, 48, 49, 50, 51, 52, 53, 54] (by decide +kernel) (by decide +kernel)
set_option maxRecDepth 20000 in
theorem gX3_gains_X3_failsRule : GoodIn wsX3_gains (wsV RX3 202 RX3 yX3_failsRule wsX3_failsRule) := goodIn_app (goodIn_of _ (by decide +kernel)) ggX3_gains_X3_failsRule
theorem dX3_gains_0 : decode cX3_gains 0 = .ok (.iload_n 1, 1) := by decide +kernel
theorem dX3_gains_1 : decode cX3_gains 1 = .ok (.iconst 4, 1) := by decide +kernel
theorem dX3_gains_2 : decode cX3_gains 2 = .ok (.invokestatic 60, 3) := by decide +kernel
theorem dX3_gains_5 : decode cX3_gains 5 = .ok (.iload_n 2, 1) := by decide +kernel
theorem dX3_gains_6 : decode cX3_gains 6 = .ok (.iconst 0, 1) := by decide +kernel
theorem dX3_gains_7 : decode cX3_gains 7 = .ok (.bipush 100, 2) := by decide +kernel
theorem dX3_gains_9 : decode cX3_gains 9 = .ok (.invokestatic 79, 3) := by decide +kernel
theorem dX3_gains_12 : decode cX3_gains 12 = .ok (.iconst 0, 1) := by decide +kernel
theorem dX3_gains_13 : decode cX3_gains 13 = .ok (.istore_n 3, 1) := by decide +kernel
theorem dX3_gains_14 : decode cX3_gains 14 = .ok (.iconst 0, 1) := by decide +kernel
theorem dX3_gains_15 : decode cX3_gains 15 = .ok (.istore 4, 2) := by decide +kernel
theorem dX3_gains_17 : decode cX3_gains 17 = .ok (.iload 4, 2) := by decide +kernel
theorem dX3_gains_19 : decode cX3_gains 19 = .ok (.aload_n 0, 1) := by decide +kernel
theorem dX3_gains_20 : decode cX3_gains 20 = .ok (.getfield 86, 3) := by decide +kernel
theorem dX3_gains_23 : decode cX3_gains 23 = .ok (.if_icmp .ge 68, 3) := by decide +kernel
theorem dX3_gains_26 : decode cX3_gains 26 = .ok (.aload_n 0, 1) := by decide +kernel
theorem dX3_gains_27 : decode cX3_gains 27 = .ok (.getfield 29, 3) := by decide +kernel
theorem dX3_gains_30 : decode cX3_gains 30 = .ok (.iload 4, 2) := by decide +kernel
theorem dX3_gains_32 : decode cX3_gains 32 = .ok (.aaload, 1) := by decide +kernel
theorem dX3_gains_33 : decode cX3_gains 33 = .ok (.getfield 196, 3) := by decide +kernel
theorem dX3_gains_36 : decode cX3_gains 36 = .ok (.iload_n 1, 1) := by decide +kernel
theorem dX3_gains_37 : decode cX3_gains 37 = .ok (.if_icmp .ne 48, 3) := by decide +kernel
theorem dX3_gains_40 : decode cX3_gains 40 = .ok (.aload_n 0, 1) := by decide +kernel
theorem dX3_gains_41 : decode cX3_gains 41 = .ok (.getfield 29, 3) := by decide +kernel
theorem dX3_gains_44 : decode cX3_gains 44 = .ok (.iload 4, 2) := by decide +kernel
theorem dX3_gains_46 : decode cX3_gains 46 = .ok (.aaload, 1) := by decide +kernel
theorem dX3_gains_47 : decode cX3_gains 47 = .ok (.getfield 199, 3) := by decide +kernel
theorem dX3_gains_50 : decode cX3_gains 50 = .ok (.iload_n 2, 1) := by decide +kernel
theorem dX3_gains_51 : decode cX3_gains 51 = .ok (.if_icmp .le 7, 3) := by decide +kernel
theorem dX3_gains_54 : decode cX3_gains 54 = .ok (.iconst 1, 1) := by decide +kernel
theorem dX3_gains_55 : decode cX3_gains 55 = .ok (.goto 4, 3) := by decide +kernel
theorem dX3_gains_58 : decode cX3_gains 58 = .ok (.iconst 0, 1) := by decide +kernel
theorem dX3_gains_59 : decode cX3_gains 59 = .ok (.istore 5, 2) := by decide +kernel
theorem dX3_gains_61 : decode cX3_gains 61 = .ok (.aload_n 0, 1) := by decide +kernel
theorem dX3_gains_62 : decode cX3_gains 62 = .ok (.iload 4, 2) := by decide +kernel
theorem dX3_gains_64 : decode cX3_gains 64 = .ok (.invokevirtual 202, 3) := by decide +kernel
theorem dX3_gains_67 : decode cX3_gains 67 = .ok (.ifCond .eq 7, 3) := by decide +kernel
theorem dX3_gains_70 : decode cX3_gains 70 = .ok (.iconst 1, 1) := by decide +kernel
theorem dX3_gains_71 : decode cX3_gains 71 = .ok (.goto 4, 3) := by decide +kernel
theorem dX3_gains_74 : decode cX3_gains 74 = .ok (.iconst 0, 1) := by decide +kernel
theorem dX3_gains_75 : decode cX3_gains 75 = .ok (.istore 6, 2) := by decide +kernel
theorem dX3_gains_77 : decode cX3_gains 77 = .ok (.iload_n 3, 1) := by decide +kernel
theorem dX3_gains_78 : decode cX3_gains 78 = .ok (.iload 5, 2) := by decide +kernel
theorem dX3_gains_80 : decode cX3_gains 80 = .ok (.iload 6, 2) := by decide +kernel
theorem dX3_gains_82 : decode cX3_gains 82 = .ok (.isub, 1) := by decide +kernel
theorem dX3_gains_83 : decode cX3_gains 83 = .ok (.iadd, 1) := by decide +kernel
theorem dX3_gains_84 : decode cX3_gains 84 = .ok (.istore_n 3, 1) := by decide +kernel
theorem dX3_gains_85 : decode cX3_gains 85 = .ok (.iinc 4 1, 3) := by decide +kernel
theorem dX3_gains_88 : decode cX3_gains 88 = .ok (.goto (-71), 3) := by decide +kernel
theorem dX3_gains_91 : decode cX3_gains 91 = .ok (.iload_n 3, 1) := by decide +kernel
theorem dX3_gains_92 : decode cX3_gains 92 = .ok (.ireturn, 1) := by decide +kernel
theorem dX3_needNumber_0 : decode cX3_needNumber 0 = .ok (.iload_n 0, 1) := by decide +kernel
theorem dX3_needNumber_1 : decode cX3_needNumber 1 = .ok (.ifCond .lt 8, 3) := by decide +kernel
theorem dX3_needNumber_4 : decode cX3_needNumber 4 = .ok (.iload_n 0, 1) := by decide +kernel
theorem dX3_needNumber_5 : decode cX3_needNumber 5 = .ok (.iload_n 1, 1) := by decide +kernel
theorem dX3_needNumber_6 : decode cX3_needNumber 6 = .ok (.if_icmp .lt 13, 3) := by decide +kernel
theorem dX3_needNumber_9 : decode cX3_needNumber 9 = .ok (.new 206, 3) := by decide +kernel
theorem dX3_needNumber_12 : decode cX3_needNumber 12 = .ok (.dup, 1) := by decide +kernel
theorem dX3_needNumber_13 : decode cX3_needNumber 13 = .ok (.ldc 208, 2) := by decide +kernel
theorem dX3_needNumber_15 : decode cX3_needNumber 15 = .ok (.invokespecial 210, 3) := by decide +kernel
theorem dX3_needNumber_18 : decode cX3_needNumber 18 = .ok (.athrow, 1) := by decide +kernel
theorem dX3_needNumber_19 : decode cX3_needNumber 19 = .ok (.return_, 1) := by decide +kernel
theorem dX3_needRange_0 : decode cX3_needRange 0 = .ok (.iload_n 0, 1) := by decide +kernel
theorem dX3_needRange_1 : decode cX3_needRange 1 = .ok (.iload_n 1, 1) := by decide +kernel
theorem dX3_needRange_2 : decode cX3_needRange 2 = .ok (.if_icmp .lt 8, 3) := by decide +kernel
theorem dX3_needRange_5 : decode cX3_needRange 5 = .ok (.iload_n 0, 1) := by decide +kernel
theorem dX3_needRange_6 : decode cX3_needRange 6 = .ok (.iload_n 2, 1) := by decide +kernel
theorem dX3_needRange_7 : decode cX3_needRange 7 = .ok (.if_icmp .le 13, 3) := by decide +kernel
theorem dX3_needRange_10 : decode cX3_needRange 10 = .ok (.new 41, 3) := by decide +kernel
theorem dX3_needRange_13 : decode cX3_needRange 13 = .ok (.dup, 1) := by decide +kernel
theorem dX3_needRange_14 : decode cX3_needRange 14 = .ok (.ldc 211, 2) := by decide +kernel
theorem dX3_needRange_16 : decode cX3_needRange 16 = .ok (.invokespecial 45, 3) := by decide +kernel
theorem dX3_needRange_19 : decode cX3_needRange 19 = .ok (.athrow, 1) := by decide +kernel
theorem dX3_needRange_20 : decode cX3_needRange 20 = .ok (.return_, 1) := by decide +kernel
theorem dX3_wordOf_0 : decode cX3_wordOf 0 = .ok (.iload_n 0, 1) := by decide +kernel
theorem dX3_wordOf_1 : decode cX3_wordOf 1 = .ok (.tableswitch 36 0 2 #[27, 30, 33], 27) := by decide +kernel
theorem dX3_wordOf_28 : decode cX3_wordOf 28 = .ok (.ldc 213, 2) := by decide +kernel
theorem dX3_wordOf_30 : decode cX3_wordOf 30 = .ok (.areturn, 1) := by decide +kernel
theorem dX3_wordOf_31 : decode cX3_wordOf 31 = .ok (.ldc 215, 2) := by decide +kernel
theorem dX3_wordOf_33 : decode cX3_wordOf 33 = .ok (.areturn, 1) := by decide +kernel
theorem dX3_wordOf_34 : decode cX3_wordOf 34 = .ok (.ldc 217, 2) := by decide +kernel
theorem dX3_wordOf_36 : decode cX3_wordOf 36 = .ok (.areturn, 1) := by decide +kernel
theorem dX3_wordOf_37 : decode cX3_wordOf 37 = .ok (.ldc 219, 2) := by decide +kernel
theorem dX3_wordOf_39 : decode cX3_wordOf 39 = .ok (.areturn, 1) := by decide +kernel
set_option maxRecDepth 20000 in
theorem ggX3_typedKind_X3_wordOf : GoodIn wsX3_typedKind wsX3_wordOf := goodIn_r _ [4] (by decide +kernel) (by decide +kernel)
set_option maxRecDepth 20000 in
theorem gX3_typedKind_X3_wordOf : GoodIn wsX3_typedKind (va_wsS RX3 221 yX3_wordOf wsX3_wordOf) := goodIn_app (goodIn_of _ (by decide +kernel)) ggX3_typedKind_X3_wordOf
set_option maxRecDepth 20000 in
theorem ggX3_typedKind_X3_isTyped : GoodIn wsX3_typedKind wsX3_isTyped := goodIn_r _ [8, 9, 10, 11, 12, 13, 14, 15, 16, 17, 18, 19, 20, 21, 22, 23, 24, 25, 26, 27, 28, 29, 30, 31, 32, 33, 34, 35, 36, 37, 38, 39, 40, 41, 42, 43, 44, 45, 46, 47, 48, 49, 50, 51, 52, 53, 54, 55, 56, 57, 58, 59, 60, 61, 62, 63, 64, 65, 66, 67, 68, 69, 70] (by decide +kernel) (by decide +kernel)
set_option maxRecDepth 20000 in
theorem gX3_typedKind_X3_isTyped : GoodIn wsX3_typedKind (wsV RX3 225 RX3 yX3_isTyped wsX3_isTyped) := goodIn_app (goodIn_of _ (by decide +kernel)) ggX3_typedKind_X3_isTyped
theorem dX3_typedKind_0 : decode cX3_typedKind 0 = .ok (.iconst 0, 1) := by decide +kernel
theorem dX3_typedKind_1 : decode cX3_typedKind 1 = .ok (.istore_n 1, 1) := by decide +kernel
theorem dX3_typedKind_2 : decode cX3_typedKind 2 = .ok (.iload_n 1, 1) := by decide +kernel
theorem dX3_typedKind_3 : decode cX3_typedKind 3 = .ok (.iconst 4, 1) := by decide +kernel
theorem dX3_typedKind_4 : decode cX3_typedKind 4 = .ok (.if_icmp .ge 22, 3) := by decide +kernel
theorem dX3_typedKind_7 : decode cX3_typedKind 7 = .ok (.aload_n 0, 1) := by decide +kernel
theorem dX3_typedKind_8 : decode cX3_typedKind 8 = .ok (.iload_n 1, 1) := by decide +kernel
theorem dX3_typedKind_9 : decode cX3_typedKind 9 = .ok (.invokestatic 221, 3) := by decide +kernel
theorem dX3_typedKind_12 : decode cX3_typedKind 12 = .ok (.invokevirtual 225, 3) := by decide +kernel
theorem dX3_typedKind_15 : decode cX3_typedKind 15 = .ok (.ifCond .eq 5, 3) := by decide +kernel
theorem dX3_typedKind_18 : decode cX3_typedKind 18 = .ok (.iload_n 1, 1) := by decide +kernel
theorem dX3_typedKind_19 : decode cX3_typedKind 19 = .ok (.ireturn, 1) := by decide +kernel
theorem dX3_typedKind_20 : decode cX3_typedKind 20 = .ok (.iinc 1 1, 3) := by decide +kernel
theorem dX3_typedKind_23 : decode cX3_typedKind 23 = .ok (.goto (-21), 3) := by decide +kernel
theorem dX3_typedKind_26 : decode cX3_typedKind 26 = .ok (.iconst (-1), 1) := by decide +kernel
theorem dX3_typedKind_27 : decode cX3_typedKind 27 = .ok (.ireturn, 1) := by decide +kernel
set_option maxRecDepth 20000 in
theorem ggX3_isTyped_J0_length_8abf5 : GoodIn wsX3_isTyped wsJ0_length_8abf5 := goodIn_r _ [7, 8, 9, 10, 11, 6, 12, 13, 14] (by decide +kernel) (by decide +kernel)
set_option maxRecDepth 20000 in
theorem gX3_isTyped_J0_length_8abf5 : GoodIn wsX3_isTyped (wsV RX3 229 RJ0 yJ0_length_8abf5 wsJ0_length_8abf5) := goodIn_app (goodIn_of _ (by decide +kernel)) ggX3_isTyped_J0_length_8abf5
set_option maxRecDepth 20000 in
theorem ggX3_isTyped_J0_charAt_5068e : GoodIn wsX3_isTyped wsJ0_charAt_5068e := goodIn_r _ [18, 8, 19, 20, 21, 6, 22, 13, 14, 23, 24, 25, 26, 27, 28, 29, 30, 31, 32, 33, 34, 35, 36, 37, 38, 39, 40, 41, 42, 43, 44, 45, 46, 47, 48, 49, 50, 51] (by decide +kernel) (by decide +kernel)
set_option maxRecDepth 20000 in
theorem gX3_isTyped_J0_charAt_5068e : GoodIn wsX3_isTyped (wsV RX3 234 RJ0 yJ0_charAt_5068e wsJ0_charAt_5068e) := goodIn_app (goodIn_of _ (by decide +kernel)) ggX3_isTyped_J0_charAt_5068e
theorem dX3_isTyped_0 : decode cX3_isTyped 0 = .ok (.aload_n 1, 1) := by decide +kernel
theorem dX3_isTyped_1 : decode cX3_isTyped 1 = .ok (.invokevirtual 229, 3) := by decide +kernel
theorem dX3_isTyped_4 : decode cX3_isTyped 4 = .ok (.aload_n 0, 1) := by decide +kernel
theorem dX3_isTyped_5 : decode cX3_isTyped 5 = .ok (.getfield 48, 3) := by decide +kernel
theorem dX3_isTyped_8 : decode cX3_isTyped 8 = .ok (.if_icmp .eq 5, 3) := by decide +kernel
theorem dX3_isTyped_11 : decode cX3_isTyped 11 = .ok (.iconst 0, 1) := by decide +kernel
theorem dX3_isTyped_12 : decode cX3_isTyped 12 = .ok (.ireturn, 1) := by decide +kernel
theorem dX3_isTyped_13 : decode cX3_isTyped 13 = .ok (.iconst 0, 1) := by decide +kernel
theorem dX3_isTyped_14 : decode cX3_isTyped 14 = .ok (.istore_n 2, 1) := by decide +kernel
theorem dX3_isTyped_15 : decode cX3_isTyped 15 = .ok (.iload_n 2, 1) := by decide +kernel
theorem dX3_isTyped_16 : decode cX3_isTyped 16 = .ok (.aload_n 0, 1) := by decide +kernel
theorem dX3_isTyped_17 : decode cX3_isTyped 17 = .ok (.getfield 48, 3) := by decide +kernel
theorem dX3_isTyped_20 : decode cX3_isTyped 20 = .ok (.if_icmp .ge 25, 3) := by decide +kernel
theorem dX3_isTyped_23 : decode cX3_isTyped 23 = .ok (.aload_n 1, 1) := by decide +kernel
theorem dX3_isTyped_24 : decode cX3_isTyped 24 = .ok (.iload_n 2, 1) := by decide +kernel
theorem dX3_isTyped_25 : decode cX3_isTyped 25 = .ok (.invokevirtual 234, 3) := by decide +kernel
theorem dX3_isTyped_28 : decode cX3_isTyped 28 = .ok (.aload_n 0, 1) := by decide +kernel
theorem dX3_isTyped_29 : decode cX3_isTyped 29 = .ok (.getfield 9, 3) := by decide +kernel
theorem dX3_isTyped_32 : decode cX3_isTyped 32 = .ok (.iload_n 2, 1) := by decide +kernel
theorem dX3_isTyped_33 : decode cX3_isTyped 33 = .ok (.caload, 1) := by decide +kernel
theorem dX3_isTyped_34 : decode cX3_isTyped 34 = .ok (.if_icmp .eq 5, 3) := by decide +kernel
theorem dX3_isTyped_37 : decode cX3_isTyped 37 = .ok (.iconst 0, 1) := by decide +kernel
theorem dX3_isTyped_38 : decode cX3_isTyped 38 = .ok (.ireturn, 1) := by decide +kernel
theorem dX3_isTyped_39 : decode cX3_isTyped 39 = .ok (.iinc 2 1, 3) := by decide +kernel
theorem dX3_isTyped_42 : decode cX3_isTyped 42 = .ok (.goto (-27), 3) := by decide +kernel
theorem dX3_isTyped_45 : decode cX3_isTyped 45 = .ok (.iconst 1, 1) := by decide +kernel
theorem dX3_isTyped_46 : decode cX3_isTyped 46 = .ok (.ireturn, 1) := by decide +kernel
set_option maxRecDepth 20000 in
theorem ggX3_ownerOn_X1_valueOn : GoodIn wsX3_ownerOn wsX1_valueOn := goodIn_r _ [6, 7, 8, 9, 10, 22, 23, 24, 25] (by decide +kernel) (by decide +kernel)
set_option maxRecDepth 20000 in
theorem gX3_ownerOn_X1_valueOn : GoodIn wsX3_ownerOn (wsV RX3 71 RX1 yX1_valueOn wsX1_valueOn) := goodIn_app (goodIn_of _ (by decide +kernel)) ggX3_ownerOn_X1_valueOn
theorem dX3_ownerOn_0 : decode cX3_ownerOn 0 = .ok (.iload_n 1, 1) := by decide +kernel
theorem dX3_ownerOn_1 : decode cX3_ownerOn 1 = .ok (.istore_n 3, 1) := by decide +kernel
theorem dX3_ownerOn_2 : decode cX3_ownerOn 2 = .ok (.iconst 0, 1) := by decide +kernel
theorem dX3_ownerOn_3 : decode cX3_ownerOn 3 = .ok (.istore 4, 2) := by decide +kernel
theorem dX3_ownerOn_5 : decode cX3_ownerOn 5 = .ok (.iload 4, 2) := by decide +kernel
theorem dX3_ownerOn_7 : decode cX3_ownerOn 7 = .ok (.bipush 10, 2) := by decide +kernel
theorem dX3_ownerOn_9 : decode cX3_ownerOn 9 = .ok (.if_icmp .ge 32, 3) := by decide +kernel
theorem dX3_ownerOn_12 : decode cX3_ownerOn 12 = .ok (.aload_n 0, 1) := by decide +kernel
theorem dX3_ownerOn_13 : decode cX3_ownerOn 13 = .ok (.getfield 20, 3) := by decide +kernel
theorem dX3_ownerOn_16 : decode cX3_ownerOn 16 = .ok (.iload_n 3, 1) := by decide +kernel
theorem dX3_ownerOn_17 : decode cX3_ownerOn 17 = .ok (.iload_n 2, 1) := by decide +kernel
theorem dX3_ownerOn_18 : decode cX3_ownerOn 18 = .ok (.iconst (-1), 1) := by decide +kernel
theorem dX3_ownerOn_19 : decode cX3_ownerOn 19 = .ok (.invokevirtual 71, 3) := by decide +kernel
theorem dX3_ownerOn_22 : decode cX3_ownerOn 22 = .ok (.istore 5, 2) := by decide +kernel
theorem dX3_ownerOn_24 : decode cX3_ownerOn 24 = .ok (.iload 5, 2) := by decide +kernel
theorem dX3_ownerOn_26 : decode cX3_ownerOn 26 = .ok (.iconst (-1), 1) := by decide +kernel
theorem dX3_ownerOn_27 : decode cX3_ownerOn 27 = .ok (.if_icmp .ne 5, 3) := by decide +kernel
theorem dX3_ownerOn_30 : decode cX3_ownerOn 30 = .ok (.iload_n 3, 1) := by decide +kernel
theorem dX3_ownerOn_31 : decode cX3_ownerOn 31 = .ok (.ireturn, 1) := by decide +kernel
theorem dX3_ownerOn_32 : decode cX3_ownerOn 32 = .ok (.iload 5, 2) := by decide +kernel
theorem dX3_ownerOn_34 : decode cX3_ownerOn 34 = .ok (.istore_n 3, 1) := by decide +kernel
theorem dX3_ownerOn_35 : decode cX3_ownerOn 35 = .ok (.iinc 4 1, 3) := by decide +kernel
theorem dX3_ownerOn_38 : decode cX3_ownerOn 38 = .ok (.goto (-33), 3) := by decide +kernel
theorem dX3_ownerOn_41 : decode cX3_ownerOn 41 = .ok (.iload_n 3, 1) := by decide +kernel
theorem dX3_ownerOn_42 : decode cX3_ownerOn 42 = .ok (.ireturn, 1) := by decide +kernel
theorem dX3_climbFrom_0 : decode cX3_climbFrom 0 = .ok (.iload_n 1, 1) := by decide +kernel
theorem dX3_climbFrom_1 : decode cX3_climbFrom 1 = .ok (.istore_n 3, 1) := by decide +kernel
theorem dX3_climbFrom_2 : decode cX3_climbFrom 2 = .ok (.iconst 0, 1) := by decide +kernel
theorem dX3_climbFrom_3 : decode cX3_climbFrom 3 = .ok (.istore 4, 2) := by decide +kernel
theorem dX3_climbFrom_5 : decode cX3_climbFrom 5 = .ok (.iload 4, 2) := by decide +kernel
theorem dX3_climbFrom_7 : decode cX3_climbFrom 7 = .ok (.iload_n 2, 1) := by decide +kernel
theorem dX3_climbFrom_8 : decode cX3_climbFrom 8 = .ok (.if_icmp .ge 26, 3) := by decide +kernel
theorem dX3_climbFrom_11 : decode cX3_climbFrom 11 = .ok (.aload_n 0, 1) := by decide +kernel
theorem dX3_climbFrom_12 : decode cX3_climbFrom 12 = .ok (.getfield 13, 3) := by decide +kernel
theorem dX3_climbFrom_15 : decode cX3_climbFrom 15 = .ok (.iload_n 3, 1) := by decide +kernel
theorem dX3_climbFrom_16 : decode cX3_climbFrom 16 = .ok (.iaload, 1) := by decide +kernel
theorem dX3_climbFrom_17 : decode cX3_climbFrom 17 = .ok (.iconst (-1), 1) := by decide +kernel
theorem dX3_climbFrom_18 : decode cX3_climbFrom 18 = .ok (.if_icmp .eq 16, 3) := by decide +kernel
theorem dX3_climbFrom_21 : decode cX3_climbFrom 21 = .ok (.aload_n 0, 1) := by decide +kernel
theorem dX3_climbFrom_22 : decode cX3_climbFrom 22 = .ok (.getfield 13, 3) := by decide +kernel
theorem dX3_climbFrom_25 : decode cX3_climbFrom 25 = .ok (.iload_n 3, 1) := by decide +kernel
theorem dX3_climbFrom_26 : decode cX3_climbFrom 26 = .ok (.iaload, 1) := by decide +kernel
theorem dX3_climbFrom_27 : decode cX3_climbFrom 27 = .ok (.istore_n 3, 1) := by decide +kernel
theorem dX3_climbFrom_28 : decode cX3_climbFrom 28 = .ok (.iinc 4 1, 3) := by decide +kernel
theorem dX3_climbFrom_31 : decode cX3_climbFrom 31 = .ok (.goto (-26), 3) := by decide +kernel
theorem dX3_climbFrom_34 : decode cX3_climbFrom 34 = .ok (.iload_n 3, 1) := by decide +kernel
theorem dX3_climbFrom_35 : decode cX3_climbFrom 35 = .ok (.ireturn, 1) := by decide +kernel
theorem dX3_complaintToJoin_0 : decode cX3_complaintToJoin 0 = .ok (.iconst 0, 1) := by decide +kernel
theorem dX3_complaintToJoin_1 : decode cX3_complaintToJoin 1 = .ok (.istore_n 2, 1) := by decide +kernel
theorem dX3_complaintToJoin_2 : decode cX3_complaintToJoin 2 = .ok (.iload_n 2, 1) := by decide +kernel
theorem dX3_complaintToJoin_3 : decode cX3_complaintToJoin 3 = .ok (.aload_n 0, 1) := by decide +kernel
theorem dX3_complaintToJoin_4 : decode cX3_complaintToJoin 4 = .ok (.getfield 127, 3) := by decide +kernel
theorem dX3_complaintToJoin_7 : decode cX3_complaintToJoin 7 = .ok (.if_icmp .ge 37, 3) := by decide +kernel
theorem dX3_complaintToJoin_10 : decode cX3_complaintToJoin 10 = .ok (.aload_n 0, 1) := by decide +kernel
theorem dX3_complaintToJoin_11 : decode cX3_complaintToJoin 11 = .ok (.getfield 36, 3) := by decide +kernel
theorem dX3_complaintToJoin_14 : decode cX3_complaintToJoin 14 = .ok (.iload_n 2, 1) := by decide +kernel
theorem dX3_complaintToJoin_15 : decode cX3_complaintToJoin 15 = .ok (.aaload, 1) := by decide +kernel
theorem dX3_complaintToJoin_16 : decode cX3_complaintToJoin 16 = .ok (.getfield 141, 3) := by decide +kernel
theorem dX3_complaintToJoin_19 : decode cX3_complaintToJoin 19 = .ok (.iload_n 1, 1) := by decide +kernel
theorem dX3_complaintToJoin_20 : decode cX3_complaintToJoin 20 = .ok (.if_icmp .ne 18, 3) := by decide +kernel
theorem dX3_complaintToJoin_23 : decode cX3_complaintToJoin 23 = .ok (.aload_n 0, 1) := by decide +kernel
theorem dX3_complaintToJoin_24 : decode cX3_complaintToJoin 24 = .ok (.getfield 36, 3) := by decide +kernel
theorem dX3_complaintToJoin_27 : decode cX3_complaintToJoin 27 = .ok (.iload_n 2, 1) := by decide +kernel
theorem dX3_complaintToJoin_28 : decode cX3_complaintToJoin 28 = .ok (.aaload, 1) := by decide +kernel
theorem dX3_complaintToJoin_29 : decode cX3_complaintToJoin 29 = .ok (.getfield 130, 3) := by decide +kernel
theorem dX3_complaintToJoin_32 : decode cX3_complaintToJoin 32 = .ok (.iconst 2, 1) := by decide +kernel
theorem dX3_complaintToJoin_33 : decode cX3_complaintToJoin 33 = .ok (.if_icmp .eq 5, 3) := by decide +kernel
theorem dX3_complaintToJoin_36 : decode cX3_complaintToJoin 36 = .ok (.iload_n 2, 1) := by decide +kernel
theorem dX3_complaintToJoin_37 : decode cX3_complaintToJoin 37 = .ok (.ireturn, 1) := by decide +kernel
theorem dX3_complaintToJoin_38 : decode cX3_complaintToJoin 38 = .ok (.iinc 2 1, 3) := by decide +kernel
theorem dX3_complaintToJoin_41 : decode cX3_complaintToJoin 41 = .ok (.goto (-39), 3) := by decide +kernel
theorem dX3_complaintToJoin_44 : decode cX3_complaintToJoin 44 = .ok (.iconst (-1), 1) := by decide +kernel
theorem dX3_complaintToJoin_45 : decode cX3_complaintToJoin 45 = .ok (.ireturn, 1) := by decide +kernel
set_option maxRecDepth 20000 in
theorem ggX3_beginComplaint_X2_begin : GoodIn wsX3_beginComplaint wsX2_begin := goodIn_r _ [9, 10, 11, 12, 13, 14, 26, 27, 28, 29, 30, 31, 32, 33] (by decide +kernel) (by decide +kernel)
set_option maxRecDepth 20000 in
theorem gX3_beginComplaint_X2_begin : GoodIn wsX3_beginComplaint (wsV RX3 240 RX2 yX2_begin wsX2_begin) := goodIn_app (goodIn_of _ (by decide +kernel)) ggX3_beginComplaint_X2_begin
theorem dX3_beginComplaint_0 : decode cX3_beginComplaint 0 = .ok (.aload_n 0, 1) := by decide +kernel
theorem dX3_beginComplaint_1 : decode cX3_beginComplaint 1 = .ok (.getfield 127, 3) := by decide +kernel
theorem dX3_beginComplaint_4 : decode cX3_beginComplaint 4 = .ok (.bipush 16, 2) := by decide +kernel
theorem dX3_beginComplaint_6 : decode cX3_beginComplaint 6 = .ok (.if_icmp .lt 13, 3) := by decide +kernel
theorem dX3_beginComplaint_9 : decode cX3_beginComplaint 9 = .ok (.new 52, 3) := by decide +kernel
theorem dX3_beginComplaint_12 : decode cX3_beginComplaint 12 = .ok (.dup, 1) := by decide +kernel
theorem dX3_beginComplaint_13 : decode cX3_beginComplaint 13 = .ok (.ldc 238, 2) := by decide +kernel
theorem dX3_beginComplaint_15 : decode cX3_beginComplaint 15 = .ok (.invokespecial 56, 3) := by decide +kernel
theorem dX3_beginComplaint_18 : decode cX3_beginComplaint 18 = .ok (.athrow, 1) := by decide +kernel
theorem dX3_beginComplaint_19 : decode cX3_beginComplaint 19 = .ok (.aload_n 0, 1) := by decide +kernel
theorem dX3_beginComplaint_20 : decode cX3_beginComplaint 20 = .ok (.getfield 127, 3) := by decide +kernel
theorem dX3_beginComplaint_23 : decode cX3_beginComplaint 23 = .ok (.istore_n 2, 1) := by decide +kernel
theorem dX3_beginComplaint_24 : decode cX3_beginComplaint 24 = .ok (.aload_n 0, 1) := by decide +kernel
theorem dX3_beginComplaint_25 : decode cX3_beginComplaint 25 = .ok (.getfield 36, 3) := by decide +kernel
theorem dX3_beginComplaint_28 : decode cX3_beginComplaint 28 = .ok (.iload_n 2, 1) := by decide +kernel
theorem dX3_beginComplaint_29 : decode cX3_beginComplaint 29 = .ok (.aaload, 1) := by decide +kernel
theorem dX3_beginComplaint_30 : decode cX3_beginComplaint 30 = .ok (.iload_n 1, 1) := by decide +kernel
theorem dX3_beginComplaint_31 : decode cX3_beginComplaint 31 = .ok (.invokevirtual 240, 3) := by decide +kernel
theorem dX3_beginComplaint_34 : decode cX3_beginComplaint 34 = .ok (.aload_n 0, 1) := by decide +kernel
theorem dX3_beginComplaint_35 : decode cX3_beginComplaint 35 = .ok (.dup, 1) := by decide +kernel
theorem dX3_beginComplaint_36 : decode cX3_beginComplaint 36 = .ok (.getfield 127, 3) := by decide +kernel
theorem dX3_beginComplaint_39 : decode cX3_beginComplaint 39 = .ok (.iconst 1, 1) := by decide +kernel
theorem dX3_beginComplaint_40 : decode cX3_beginComplaint 40 = .ok (.iadd, 1) := by decide +kernel
theorem dX3_beginComplaint_41 : decode cX3_beginComplaint 41 = .ok (.putfield 127, 3) := by decide +kernel
theorem dX3_beginComplaint_44 : decode cX3_beginComplaint 44 = .ok (.iload_n 2, 1) := by decide +kernel
theorem dX3_beginComplaint_45 : decode cX3_beginComplaint 45 = .ok (.ireturn, 1) := by decide +kernel
theorem dX3_isLike_0 : decode cX3_isLike 0 = .ok (.iload_n 1, 1) := by decide +kernel
theorem dX3_isLike_1 : decode cX3_isLike 1 = .ok (.iload_n 2, 1) := by decide +kernel
theorem dX3_isLike_2 : decode cX3_isLike 2 = .ok (.if_icmp .eq 49, 3) := by decide +kernel
theorem dX3_isLike_5 : decode cX3_isLike 5 = .ok (.aload_n 0, 1) := by decide +kernel
theorem dX3_isLike_6 : decode cX3_isLike 6 = .ok (.getfield 29, 3) := by decide +kernel
theorem dX3_isLike_9 : decode cX3_isLike 9 = .ok (.iload_n 1, 1) := by decide +kernel
theorem dX3_isLike_10 : decode cX3_isLike 10 = .ok (.aaload, 1) := by decide +kernel
theorem dX3_isLike_11 : decode cX3_isLike 11 = .ok (.getfield 196, 3) := by decide +kernel
theorem dX3_isLike_14 : decode cX3_isLike 14 = .ok (.aload_n 0, 1) := by decide +kernel
theorem dX3_isLike_15 : decode cX3_isLike 15 = .ok (.getfield 29, 3) := by decide +kernel
theorem dX3_isLike_18 : decode cX3_isLike 18 = .ok (.iload_n 2, 1) := by decide +kernel
theorem dX3_isLike_19 : decode cX3_isLike 19 = .ok (.aaload, 1) := by decide +kernel
theorem dX3_isLike_20 : decode cX3_isLike 20 = .ok (.getfield 196, 3) := by decide +kernel
theorem dX3_isLike_23 : decode cX3_isLike 23 = .ok (.if_icmp .ne 28, 3) := by decide +kernel
theorem dX3_isLike_26 : decode cX3_isLike 26 = .ok (.aload_n 0, 1) := by decide +kernel
theorem dX3_isLike_27 : decode cX3_isLike 27 = .ok (.getfield 29, 3) := by decide +kernel
theorem dX3_isLike_30 : decode cX3_isLike 30 = .ok (.iload_n 1, 1) := by decide +kernel
theorem dX3_isLike_31 : decode cX3_isLike 31 = .ok (.aaload, 1) := by decide +kernel
theorem dX3_isLike_32 : decode cX3_isLike 32 = .ok (.getfield 144, 3) := by decide +kernel
theorem dX3_isLike_35 : decode cX3_isLike 35 = .ok (.aload_n 0, 1) := by decide +kernel
theorem dX3_isLike_36 : decode cX3_isLike 36 = .ok (.getfield 29, 3) := by decide +kernel
theorem dX3_isLike_39 : decode cX3_isLike 39 = .ok (.iload_n 2, 1) := by decide +kernel
theorem dX3_isLike_40 : decode cX3_isLike 40 = .ok (.aaload, 1) := by decide +kernel
theorem dX3_isLike_41 : decode cX3_isLike 41 = .ok (.getfield 144, 3) := by decide +kernel
theorem dX3_isLike_44 : decode cX3_isLike 44 = .ok (.if_icmp .ne 7, 3) := by decide +kernel
theorem dX3_isLike_47 : decode cX3_isLike 47 = .ok (.iconst 1, 1) := by decide +kernel
theorem dX3_isLike_48 : decode cX3_isLike 48 = .ok (.goto 4, 3) := by decide +kernel
theorem dX3_isLike_51 : decode cX3_isLike 51 = .ok (.iconst 0, 1) := by decide +kernel
theorem dX3_isLike_52 : decode cX3_isLike 52 = .ok (.ireturn, 1) := by decide +kernel
set_option maxRecDepth 20000 in
theorem ggX3_countLikes_X3_isLike : GoodIn wsX3_countLikes wsX3_isLike := goodIn_r _ [6, 7, 8, 9, 10, 11, 12, 13, 14, 15, 16, 17, 18, 19, 20, 21, 22, 23, 24, 25, 26, 27, 28, 29] (by decide +kernel) (by decide +kernel)
set_option maxRecDepth 20000 in
theorem gX3_countLikes_X3_isLike : GoodIn wsX3_countLikes (wsV RX3 164 RX3 yX3_isLike wsX3_isLike) := goodIn_app (goodIn_of _ (by decide +kernel)) ggX3_countLikes_X3_isLike
theorem dX3_countLikes_0 : decode cX3_countLikes 0 = .ok (.iconst 0, 1) := by decide +kernel
theorem dX3_countLikes_1 : decode cX3_countLikes 1 = .ok (.istore_n 2, 1) := by decide +kernel
theorem dX3_countLikes_2 : decode cX3_countLikes 2 = .ok (.iconst 0, 1) := by decide +kernel
theorem dX3_countLikes_3 : decode cX3_countLikes 3 = .ok (.istore_n 3, 1) := by decide +kernel
theorem dX3_countLikes_4 : decode cX3_countLikes 4 = .ok (.iload_n 3, 1) := by decide +kernel
theorem dX3_countLikes_5 : decode cX3_countLikes 5 = .ok (.aload_n 0, 1) := by decide +kernel
theorem dX3_countLikes_6 : decode cX3_countLikes 6 = .ok (.getfield 86, 3) := by decide +kernel
theorem dX3_countLikes_9 : decode cX3_countLikes 9 = .ok (.if_icmp .ge 21, 3) := by decide +kernel
theorem dX3_countLikes_12 : decode cX3_countLikes 12 = .ok (.aload_n 0, 1) := by decide +kernel
theorem dX3_countLikes_13 : decode cX3_countLikes 13 = .ok (.iload_n 1, 1) := by decide +kernel
theorem dX3_countLikes_14 : decode cX3_countLikes 14 = .ok (.iload_n 3, 1) := by decide +kernel
theorem dX3_countLikes_15 : decode cX3_countLikes 15 = .ok (.invokevirtual 164, 3) := by decide +kernel
theorem dX3_countLikes_18 : decode cX3_countLikes 18 = .ok (.ifCond .eq 6, 3) := by decide +kernel
theorem dX3_countLikes_21 : decode cX3_countLikes 21 = .ok (.iinc 2 1, 3) := by decide +kernel
theorem dX3_countLikes_24 : decode cX3_countLikes 24 = .ok (.iinc 3 1, 3) := by decide +kernel
theorem dX3_countLikes_27 : decode cX3_countLikes 27 = .ok (.goto (-23), 3) := by decide +kernel
theorem dX3_countLikes_30 : decode cX3_countLikes 30 = .ok (.iload_n 2, 1) := by decide +kernel
theorem dX3_countLikes_31 : decode cX3_countLikes 31 = .ok (.ireturn, 1) := by decide +kernel
set_option maxRecDepth 20000 in
theorem ggX3_sumOfLikes_X3_isLike : GoodIn wsX3_sumOfLikes wsX3_isLike := goodIn_r _ [8, 2, 9, 10, 11, 12, 13, 14, 15, 16, 17, 18, 19, 20, 21, 22, 23, 24, 25, 26, 27, 28, 29, 30] (by decide +kernel) (by decide +kernel)
set_option maxRecDepth 20000 in
theorem gX3_sumOfLikes_X3_isLike : GoodIn wsX3_sumOfLikes (wsV RX3 164 RX3 yX3_isLike wsX3_isLike) := goodIn_app (goodIn_of _ (by decide +kernel)) ggX3_sumOfLikes_X3_isLike
theorem dX3_sumOfLikes_0 : decode cX3_sumOfLikes 0 = .ok (.iconst 0, 1) := by decide +kernel
theorem dX3_sumOfLikes_1 : decode cX3_sumOfLikes 1 = .ok (.istore_n 2, 1) := by decide +kernel
theorem dX3_sumOfLikes_2 : decode cX3_sumOfLikes 2 = .ok (.iconst 0, 1) := by decide +kernel
theorem dX3_sumOfLikes_3 : decode cX3_sumOfLikes 3 = .ok (.istore_n 3, 1) := by decide +kernel
theorem dX3_sumOfLikes_4 : decode cX3_sumOfLikes 4 = .ok (.iload_n 3, 1) := by decide +kernel
theorem dX3_sumOfLikes_5 : decode cX3_sumOfLikes 5 = .ok (.aload_n 0, 1) := by decide +kernel
theorem dX3_sumOfLikes_6 : decode cX3_sumOfLikes 6 = .ok (.getfield 86, 3) := by decide +kernel
theorem dX3_sumOfLikes_9 : decode cX3_sumOfLikes 9 = .ok (.if_icmp .ge 30, 3) := by decide +kernel
theorem dX3_sumOfLikes_12 : decode cX3_sumOfLikes 12 = .ok (.aload_n 0, 1) := by decide +kernel
theorem dX3_sumOfLikes_13 : decode cX3_sumOfLikes 13 = .ok (.iload_n 1, 1) := by decide +kernel
theorem dX3_sumOfLikes_14 : decode cX3_sumOfLikes 14 = .ok (.iload_n 3, 1) := by decide +kernel
theorem dX3_sumOfLikes_15 : decode cX3_sumOfLikes 15 = .ok (.invokevirtual 164, 3) := by decide +kernel
theorem dX3_sumOfLikes_18 : decode cX3_sumOfLikes 18 = .ok (.ifCond .eq 15, 3) := by decide +kernel
theorem dX3_sumOfLikes_21 : decode cX3_sumOfLikes 21 = .ok (.iload_n 2, 1) := by decide +kernel
theorem dX3_sumOfLikes_22 : decode cX3_sumOfLikes 22 = .ok (.aload_n 0, 1) := by decide +kernel
theorem dX3_sumOfLikes_23 : decode cX3_sumOfLikes 23 = .ok (.getfield 29, 3) := by decide +kernel
theorem dX3_sumOfLikes_26 : decode cX3_sumOfLikes 26 = .ok (.iload_n 3, 1) := by decide +kernel
theorem dX3_sumOfLikes_27 : decode cX3_sumOfLikes 27 = .ok (.aaload, 1) := by decide +kernel
theorem dX3_sumOfLikes_28 : decode cX3_sumOfLikes 28 = .ok (.getfield 199, 3) := by decide +kernel
theorem dX3_sumOfLikes_31 : decode cX3_sumOfLikes 31 = .ok (.iadd, 1) := by decide +kernel
theorem dX3_sumOfLikes_32 : decode cX3_sumOfLikes 32 = .ok (.istore_n 2, 1) := by decide +kernel
theorem dX3_sumOfLikes_33 : decode cX3_sumOfLikes 33 = .ok (.iinc 3 1, 3) := by decide +kernel
theorem dX3_sumOfLikes_36 : decode cX3_sumOfLikes 36 = .ok (.goto (-32), 3) := by decide +kernel
theorem dX3_sumOfLikes_39 : decode cX3_sumOfLikes 39 = .ok (.iload_n 2, 1) := by decide +kernel
theorem dX3_sumOfLikes_40 : decode cX3_sumOfLikes 40 = .ok (.ireturn, 1) := by decide +kernel
set_option maxRecDepth 20000 in
theorem ggX3_failsRule_X1_valueOn : GoodIn wsX3_failsRule wsX1_valueOn := goodIn_r _ [10, 11, 12, 13, 14, 35, 36, 37, 38] (by decide +kernel) (by decide +kernel)
set_option maxRecDepth 20000 in
theorem gX3_failsRule_X1_valueOn : GoodIn wsX3_failsRule (wsV RX3 71 RX1 yX1_valueOn wsX1_valueOn) := goodIn_app (goodIn_of _ (by decide +kernel)) ggX3_failsRule_X1_valueOn
theorem dX3_failsRule_0 : decode cX3_failsRule 0 = .ok (.aload_n 0, 1) := by decide +kernel
theorem dX3_failsRule_1 : decode cX3_failsRule 1 = .ok (.getfield 29, 3) := by decide +kernel
theorem dX3_failsRule_4 : decode cX3_failsRule 4 = .ok (.iload_n 1, 1) := by decide +kernel
theorem dX3_failsRule_5 : decode cX3_failsRule 5 = .ok (.aaload, 1) := by decide +kernel
theorem dX3_failsRule_6 : decode cX3_failsRule 6 = .ok (.getfield 199, 3) := by decide +kernel
theorem dX3_failsRule_9 : decode cX3_failsRule 9 = .ok (.aload_n 0, 1) := by decide +kernel
theorem dX3_failsRule_10 : decode cX3_failsRule 10 = .ok (.getfield 24, 3) := by decide +kernel
theorem dX3_failsRule_13 : decode cX3_failsRule 13 = .ok (.aload_n 0, 1) := by decide +kernel
theorem dX3_failsRule_14 : decode cX3_failsRule 14 = .ok (.getfield 29, 3) := by decide +kernel
theorem dX3_failsRule_17 : decode cX3_failsRule 17 = .ok (.iload_n 1, 1) := by decide +kernel
theorem dX3_failsRule_18 : decode cX3_failsRule 18 = .ok (.aaload, 1) := by decide +kernel
theorem dX3_failsRule_19 : decode cX3_failsRule 19 = .ok (.getfield 196, 3) := by decide +kernel
theorem dX3_failsRule_22 : decode cX3_failsRule 22 = .ok (.aload_n 0, 1) := by decide +kernel
theorem dX3_failsRule_23 : decode cX3_failsRule 23 = .ok (.getfield 29, 3) := by decide +kernel
theorem dX3_failsRule_26 : decode cX3_failsRule 26 = .ok (.iload_n 1, 1) := by decide +kernel
theorem dX3_failsRule_27 : decode cX3_failsRule 27 = .ok (.aaload, 1) := by decide +kernel
theorem dX3_failsRule_28 : decode cX3_failsRule 28 = .ok (.getfield 242, 3) := by decide +kernel
theorem dX3_failsRule_31 : decode cX3_failsRule 31 = .ok (.bipush 30, 2) := by decide +kernel
theorem dX3_failsRule_33 : decode cX3_failsRule 33 = .ok (.invokevirtual 71, 3) := by decide +kernel
theorem dX3_failsRule_36 : decode cX3_failsRule 36 = .ok (.if_icmp .le 7, 3) := by decide +kernel
theorem dX3_failsRule_39 : decode cX3_failsRule 39 = .ok (.iconst 1, 1) := by decide +kernel
theorem dX3_failsRule_40 : decode cX3_failsRule 40 = .ok (.goto 4, 3) := by decide +kernel
theorem dX3_failsRule_43 : decode cX3_failsRule 43 = .ok (.iconst 0, 1) := by decide +kernel
theorem dX3_failsRule_44 : decode cX3_failsRule 44 = .ok (.ireturn, 1) := by decide +kernel
set_option maxRecDepth 20000 in
theorem ggX3_isUnequal_X3_countLikes : GoodIn wsX3_isUnequal wsX3_countLikes := goodIn_r _ [7, 8, 9, 10, 11, 6, 12, 1, 13, 14, 19, 20, 21, 22, 23, 24, 25, 26, 27, 28, 29, 30, 31, 32, 33, 34, 35, 36, 37, 38] (by decide +kernel) (by decide +kernel)
set_option maxRecDepth 20000 in
theorem gX3_isUnequal_X3_countLikes : GoodIn wsX3_isUnequal (wsV RX3 190 RX3 yX3_countLikes wsX3_countLikes) := goodIn_app (goodIn_of _ (by decide +kernel)) ggX3_isUnequal_X3_countLikes
set_option maxRecDepth 20000 in
theorem ggX3_isUnequal_X3_sumOfLikes : GoodIn wsX3_isUnequal wsX3_sumOfLikes := goodIn_r _ [18, 8, 1, 2, 9, 10, 11, 6, 12, 13, 14, 19, 20, 21, 22, 23, 24, 25, 26, 27, 28, 29, 30, 31, 32, 33, 34, 35, 36, 37, 38] (by decide +kernel) (by decide +kernel)
set_option maxRecDepth 20000 in
theorem gX3_isUnequal_X3_sumOfLikes : GoodIn wsX3_isUnequal (wsV RX3 245 RX3 yX3_sumOfLikes wsX3_sumOfLikes) := goodIn_app (goodIn_of _ (by decide +kernel)) ggX3_isUnequal_X3_sumOfLikes
theorem dX3_isUnequal_0 : decode cX3_isUnequal 0 = .ok (.aload_n 0, 1) := by decide +kernel
theorem dX3_isUnequal_1 : decode cX3_isUnequal 1 = .ok (.iload_n 1, 1) := by decide +kernel
theorem dX3_isUnequal_2 : decode cX3_isUnequal 2 = .ok (.invokevirtual 190, 3) := by decide +kernel
theorem dX3_isUnequal_5 : decode cX3_isUnequal 5 = .ok (.istore_n 2, 1) := by decide +kernel
theorem dX3_isUnequal_6 : decode cX3_isUnequal 6 = .ok (.iload_n 2, 1) := by decide +kernel
theorem dX3_isUnequal_7 : decode cX3_isUnequal 7 = .ok (.iconst 2, 1) := by decide +kernel
theorem dX3_isUnequal_8 : decode cX3_isUnequal 8 = .ok (.if_icmp .ge 5, 3) := by decide +kernel
theorem dX3_isUnequal_11 : decode cX3_isUnequal 11 = .ok (.iconst 0, 1) := by decide +kernel
theorem dX3_isUnequal_12 : decode cX3_isUnequal 12 = .ok (.ireturn, 1) := by decide +kernel
theorem dX3_isUnequal_13 : decode cX3_isUnequal 13 = .ok (.aload_n 0, 1) := by decide +kernel
theorem dX3_isUnequal_14 : decode cX3_isUnequal 14 = .ok (.iload_n 1, 1) := by decide +kernel
theorem dX3_isUnequal_15 : decode cX3_isUnequal 15 = .ok (.invokevirtual 245, 3) := by decide +kernel
theorem dX3_isUnequal_18 : decode cX3_isUnequal 18 = .ok (.iload_n 2, 1) := by decide +kernel
theorem dX3_isUnequal_19 : decode cX3_isUnequal 19 = .ok (.idiv, 1) := by decide +kernel
theorem dX3_isUnequal_20 : decode cX3_isUnequal 20 = .ok (.istore_n 3, 1) := by decide +kernel
theorem dX3_isUnequal_21 : decode cX3_isUnequal 21 = .ok (.aload_n 0, 1) := by decide +kernel
theorem dX3_isUnequal_22 : decode cX3_isUnequal 22 = .ok (.getfield 29, 3) := by decide +kernel
theorem dX3_isUnequal_25 : decode cX3_isUnequal 25 = .ok (.iload_n 1, 1) := by decide +kernel
theorem dX3_isUnequal_26 : decode cX3_isUnequal 26 = .ok (.aaload, 1) := by decide +kernel
theorem dX3_isUnequal_27 : decode cX3_isUnequal 27 = .ok (.getfield 199, 3) := by decide +kernel
theorem dX3_isUnequal_30 : decode cX3_isUnequal 30 = .ok (.iconst 2, 1) := by decide +kernel
theorem dX3_isUnequal_31 : decode cX3_isUnequal 31 = .ok (.iload_n 3, 1) := by decide +kernel
theorem dX3_isUnequal_32 : decode cX3_isUnequal 32 = .ok (.imul, 1) := by decide +kernel
theorem dX3_isUnequal_33 : decode cX3_isUnequal 33 = .ok (.if_icmp .le 7, 3) := by decide +kernel
theorem dX3_isUnequal_36 : decode cX3_isUnequal 36 = .ok (.iconst 1, 1) := by decide +kernel
theorem dX3_isUnequal_37 : decode cX3_isUnequal 37 = .ok (.goto 4, 3) := by decide +kernel
theorem dX3_isUnequal_40 : decode cX3_isUnequal 40 = .ok (.iconst 0, 1) := by decide +kernel
theorem dX3_isUnequal_41 : decode cX3_isUnequal 41 = .ok (.ireturn, 1) := by decide +kernel
set_option maxRecDepth 20000 in
theorem ggX3_faultOf_X3_failsRule : GoodIn wsX3_faultOf wsX3_failsRule := goodIn_r _ [5, 6, 7, 8, 9, 10, 11, 12, 13, 14, 15, 16, 17, 18, 19, 38, 39, 40, 41, 42, 43, 44, 45, 46, 47, 48, 49, 50, 51, 52, 53, 54, 55, 56, 57, 58, 59, 60, 61] (by decide +kernel) (by decide +kernel)
set_option maxRecDepth 20000 in
theorem gX3_faultOf_X3_failsRule : GoodIn wsX3_faultOf (wsV RX3 202 RX3 yX3_failsRule wsX3_failsRule) := goodIn_app (goodIn_of _ (by decide +kernel)) ggX3_faultOf_X3_failsRule
set_option maxRecDepth 20000 in
theorem ggX3_faultOf_X3_isUnequal : GoodIn wsX3_faultOf wsX3_isUnequal := goodIn_r _ [23, 6, 7, 24, 25, 26, 4, 27, 28, 29, 30, 31, 32, 9, 33, 34, 35, 36, 37, 38, 39, 40, 41, 42, 43, 44, 45, 46, 47, 48, 49, 50, 51, 52, 53, 54, 55, 56, 57] (by decide +kernel) (by decide +kernel)
set_option maxRecDepth 20000 in
theorem gX3_faultOf_X3_isUnequal : GoodIn wsX3_faultOf (wsV RX3 248 RX3 yX3_isUnequal wsX3_isUnequal) := goodIn_app (goodIn_of _ (by decide +kernel)) ggX3_faultOf_X3_isUnequal
theorem dX3_faultOf_0 : decode cX3_faultOf 0 = .ok (.iconst 0, 1) := by decide +kernel
theorem dX3_faultOf_1 : decode cX3_faultOf 1 = .ok (.istore_n 2, 1) := by decide +kernel
theorem dX3_faultOf_2 : decode cX3_faultOf 2 = .ok (.aload_n 0, 1) := by decide +kernel
theorem dX3_faultOf_3 : decode cX3_faultOf 3 = .ok (.iload_n 1, 1) := by decide +kernel
theorem dX3_faultOf_4 : decode cX3_faultOf 4 = .ok (.invokevirtual 202, 3) := by decide +kernel
theorem dX3_faultOf_7 : decode cX3_faultOf 7 = .ok (.ifCond .eq 6, 3) := by decide +kernel
theorem dX3_faultOf_10 : decode cX3_faultOf 10 = .ok (.iinc 2 1, 3) := by decide +kernel
theorem dX3_faultOf_13 : decode cX3_faultOf 13 = .ok (.aload_n 0, 1) := by decide +kernel
theorem dX3_faultOf_14 : decode cX3_faultOf 14 = .ok (.iload_n 1, 1) := by decide +kernel
theorem dX3_faultOf_15 : decode cX3_faultOf 15 = .ok (.invokevirtual 248, 3) := by decide +kernel
theorem dX3_faultOf_18 : decode cX3_faultOf 18 = .ok (.ifCond .eq 6, 3) := by decide +kernel
theorem dX3_faultOf_21 : decode cX3_faultOf 21 = .ok (.iinc 2 2, 3) := by decide +kernel
theorem dX3_faultOf_24 : decode cX3_faultOf 24 = .ok (.iload_n 2, 1) := by decide +kernel
theorem dX3_faultOf_25 : decode cX3_faultOf 25 = .ok (.ireturn, 1) := by decide +kernel
end
section
theorem dX4_init_0 : decode cX4_init 0 = .ok (.aload_n 0, 1) := by decide +kernel
theorem dX4_init_1 : decode cX4_init 1 = .ok (.invokespecial 1, 3) := by decide +kernel
theorem dX4_init_4 : decode cX4_init 4 = .ok (.aload_n 0, 1) := by decide +kernel
theorem dX4_init_5 : decode cX4_init 5 = .ok (.bipush 7, 2) := by decide +kernel
theorem dX4_init_7 : decode cX4_init 7 = .ok (.newarray .int, 2) := by decide +kernel
theorem dX4_init_9 : decode cX4_init 9 = .ok (.putfield 7, 3) := by decide +kernel
theorem dX4_init_12 : decode cX4_init 12 = .ok (.aload_n 0, 1) := by decide +kernel
theorem dX4_init_13 : decode cX4_init 13 = .ok (.bipush 10, 2) := by decide +kernel
theorem dX4_init_15 : decode cX4_init 15 = .ok (.newarray .int, 2) := by decide +kernel
theorem dX4_init_17 : decode cX4_init 17 = .ok (.putfield 13, 3) := by decide +kernel
theorem dX4_init_20 : decode cX4_init 20 = .ok (.aload_n 0, 1) := by decide +kernel
theorem dX4_init_21 : decode cX4_init 21 = .ok (.ldc 16, 2) := by decide +kernel
theorem dX4_init_23 : decode cX4_init 23 = .ok (.newarray .int, 2) := by decide +kernel
theorem dX4_init_25 : decode cX4_init 25 = .ok (.putfield 17, 3) := by decide +kernel
theorem dX4_init_28 : decode cX4_init 28 = .ok (.aload_n 0, 1) := by decide +kernel
theorem dX4_init_29 : decode cX4_init 29 = .ok (.sipush 20004, 3) := by decide +kernel
theorem dX4_init_32 : decode cX4_init 32 = .ok (.newarray .int, 2) := by decide +kernel
theorem dX4_init_34 : decode cX4_init 34 = .ok (.putfield 20, 3) := by decide +kernel
theorem dX4_init_37 : decode cX4_init 37 = .ok (.aload_n 0, 1) := by decide +kernel
theorem dX4_init_38 : decode cX4_init 38 = .ok (.bipush 24, 2) := by decide +kernel
theorem dX4_init_40 : decode cX4_init 40 = .ok (.newarray .int, 2) := by decide +kernel
theorem dX4_init_42 : decode cX4_init 42 = .ok (.putfield 23, 3) := by decide +kernel
theorem dX4_init_45 : decode cX4_init 45 = .ok (.aload_n 0, 1) := by decide +kernel
theorem dX4_init_46 : decode cX4_init 46 = .ok (.bipush 24, 2) := by decide +kernel
theorem dX4_init_48 : decode cX4_init 48 = .ok (.newarray .int, 2) := by decide +kernel
theorem dX4_init_50 : decode cX4_init 50 = .ok (.putfield 26, 3) := by decide +kernel
theorem dX4_init_53 : decode cX4_init 53 = .ok (.aload_n 0, 1) := by decide +kernel
theorem dX4_init_54 : decode cX4_init 54 = .ok (.bipush 24, 2) := by decide +kernel
theorem dX4_init_56 : decode cX4_init 56 = .ok (.newarray .int, 2) := by decide +kernel
theorem dX4_init_58 : decode cX4_init 58 = .ok (.putfield 29, 3) := by decide +kernel
theorem dX4_init_61 : decode cX4_init 61 = .ok (.aload_n 0, 1) := by decide +kernel
theorem dX4_init_62 : decode cX4_init 62 = .ok (.bipush 24, 2) := by decide +kernel
theorem dX4_init_64 : decode cX4_init 64 = .ok (.newarray .int, 2) := by decide +kernel
theorem dX4_init_66 : decode cX4_init 66 = .ok (.putfield 32, 3) := by decide +kernel
theorem dX4_init_69 : decode cX4_init 69 = .ok (.aload_n 0, 1) := by decide +kernel
theorem dX4_init_70 : decode cX4_init 70 = .ok (.bipush 24, 2) := by decide +kernel
theorem dX4_init_72 : decode cX4_init 72 = .ok (.newarray .int, 2) := by decide +kernel
theorem dX4_init_74 : decode cX4_init 74 = .ok (.putfield 35, 3) := by decide +kernel
theorem dX4_init_77 : decode cX4_init 77 = .ok (.aload_n 0, 1) := by decide +kernel
theorem dX4_init_78 : decode cX4_init 78 = .ok (.bipush 24, 2) := by decide +kernel
theorem dX4_init_80 : decode cX4_init 80 = .ok (.newarray .boolean, 2) := by decide +kernel
theorem dX4_init_82 : decode cX4_init 82 = .ok (.putfield 38, 3) := by decide +kernel
theorem dX4_init_85 : decode cX4_init 85 = .ok (.aload_n 0, 1) := by decide +kernel
theorem dX4_init_86 : decode cX4_init 86 = .ok (.bipush 24, 2) := by decide +kernel
theorem dX4_init_88 : decode cX4_init 88 = .ok (.newarray .boolean, 2) := by decide +kernel
theorem dX4_init_90 : decode cX4_init 90 = .ok (.putfield 42, 3) := by decide +kernel
theorem dX4_init_93 : decode cX4_init 93 = .ok (.aload_n 0, 1) := by decide +kernel
theorem dX4_init_94 : decode cX4_init 94 = .ok (.bipush 24, 2) := by decide +kernel
theorem dX4_init_96 : decode cX4_init 96 = .ok (.newarray .int, 2) := by decide +kernel
theorem dX4_init_98 : decode cX4_init 98 = .ok (.putfield 45, 3) := by decide +kernel
theorem dX4_init_101 : decode cX4_init 101 = .ok (.aload_n 0, 1) := by decide +kernel
theorem dX4_init_102 : decode cX4_init 102 = .ok (.sipush 240, 3) := by decide +kernel
theorem dX4_init_105 : decode cX4_init 105 = .ok (.newarray .int, 2) := by decide +kernel
theorem dX4_init_107 : decode cX4_init 107 = .ok (.putfield 48, 3) := by decide +kernel
theorem dX4_init_110 : decode cX4_init 110 = .ok (.aload_n 0, 1) := by decide +kernel
theorem dX4_init_111 : decode cX4_init 111 = .ok (.bipush 16, 2) := by decide +kernel
theorem dX4_init_113 : decode cX4_init 113 = .ok (.newarray .int, 2) := by decide +kernel
theorem dX4_init_115 : decode cX4_init 115 = .ok (.putfield 51, 3) := by decide +kernel
theorem dX4_init_118 : decode cX4_init 118 = .ok (.aload_n 0, 1) := by decide +kernel
theorem dX4_init_119 : decode cX4_init 119 = .ok (.bipush 16, 2) := by decide +kernel
theorem dX4_init_121 : decode cX4_init 121 = .ok (.newarray .int, 2) := by decide +kernel
theorem dX4_init_123 : decode cX4_init 123 = .ok (.putfield 54, 3) := by decide +kernel
theorem dX4_init_126 : decode cX4_init 126 = .ok (.aload_n 0, 1) := by decide +kernel
theorem dX4_init_127 : decode cX4_init 127 = .ok (.bipush 16, 2) := by decide +kernel
theorem dX4_init_129 : decode cX4_init 129 = .ok (.newarray .int, 2) := by decide +kernel
theorem dX4_init_131 : decode cX4_init 131 = .ok (.putfield 57, 3) := by decide +kernel
theorem dX4_init_134 : decode cX4_init 134 = .ok (.aload_n 0, 1) := by decide +kernel
theorem dX4_init_135 : decode cX4_init 135 = .ok (.bipush 16, 2) := by decide +kernel
theorem dX4_init_137 : decode cX4_init 137 = .ok (.newarray .int, 2) := by decide +kernel
theorem dX4_init_139 : decode cX4_init 139 = .ok (.putfield 60, 3) := by decide +kernel
theorem dX4_init_142 : decode cX4_init 142 = .ok (.aload_n 0, 1) := by decide +kernel
theorem dX4_init_143 : decode cX4_init 143 = .ok (.bipush 16, 2) := by decide +kernel
theorem dX4_init_145 : decode cX4_init 145 = .ok (.newarray .int, 2) := by decide +kernel
theorem dX4_init_147 : decode cX4_init 147 = .ok (.putfield 63, 3) := by decide +kernel
theorem dX4_init_150 : decode cX4_init 150 = .ok (.aload_n 0, 1) := by decide +kernel
theorem dX4_init_151 : decode cX4_init 151 = .ok (.bipush 16, 2) := by decide +kernel
theorem dX4_init_153 : decode cX4_init 153 = .ok (.newarray .boolean, 2) := by decide +kernel
theorem dX4_init_155 : decode cX4_init 155 = .ok (.putfield 66, 3) := by decide +kernel
theorem dX4_init_158 : decode cX4_init 158 = .ok (.aload_n 0, 1) := by decide +kernel
theorem dX4_init_159 : decode cX4_init 159 = .ok (.bipush 16, 2) := by decide +kernel
theorem dX4_init_161 : decode cX4_init 161 = .ok (.newarray .boolean, 2) := by decide +kernel
theorem dX4_init_163 : decode cX4_init 163 = .ok (.putfield 69, 3) := by decide +kernel
theorem dX4_init_166 : decode cX4_init 166 = .ok (.aload_n 0, 1) := by decide +kernel
theorem dX4_init_167 : decode cX4_init 167 = .ok (.bipush 16, 2) := by decide +kernel
theorem dX4_init_169 : decode cX4_init 169 = .ok (.newarray .int, 2) := by decide +kernel
theorem dX4_init_171 : decode cX4_init 171 = .ok (.putfield 72, 3) := by decide +kernel
theorem dX4_init_174 : decode cX4_init 174 = .ok (.iconst 0, 1) := by decide +kernel
theorem dX4_init_175 : decode cX4_init 175 = .ok (.istore_n 1, 1) := by decide +kernel
theorem dX4_init_176 : decode cX4_init 176 = .ok (.iload_n 1, 1) := by decide +kernel
theorem dX4_init_177 : decode cX4_init 177 = .ok (.sipush 20004, 3) := by decide +kernel
theorem dX4_init_180 : decode cX4_init 180 = .ok (.if_icmp .ge 17, 3) := by decide +kernel
theorem dX4_init_183 : decode cX4_init 183 = .ok (.aload_n 0, 1) := by decide +kernel
theorem dX4_init_184 : decode cX4_init 184 = .ok (.getfield 20, 3) := by decide +kernel
theorem dX4_init_187 : decode cX4_init 187 = .ok (.iload_n 1, 1) := by decide +kernel
theorem dX4_init_188 : decode cX4_init 188 = .ok (.bipush 30, 2) := by decide +kernel
theorem dX4_init_190 : decode cX4_init 190 = .ok (.iastore, 1) := by decide +kernel
theorem dX4_init_191 : decode cX4_init 191 = .ok (.iinc 1 1, 3) := by decide +kernel
theorem dX4_init_194 : decode cX4_init 194 = .ok (.goto (-18), 3) := by decide +kernel
theorem dX4_init_197 : decode cX4_init 197 = .ok (.iconst 0, 1) := by decide +kernel
theorem dX4_init_198 : decode cX4_init 198 = .ok (.istore_n 1, 1) := by decide +kernel
theorem dX4_init_199 : decode cX4_init 199 = .ok (.iload_n 1, 1) := by decide +kernel
theorem dX4_init_200 : decode cX4_init 200 = .ok (.bipush 24, 2) := by decide +kernel
theorem dX4_init_202 : decode cX4_init 202 = .ok (.if_icmp .ge 16, 3) := by decide +kernel
theorem dX4_init_205 : decode cX4_init 205 = .ok (.aload_n 0, 1) := by decide +kernel
theorem dX4_init_206 : decode cX4_init 206 = .ok (.getfield 45, 3) := by decide +kernel
theorem dX4_init_209 : decode cX4_init 209 = .ok (.iload_n 1, 1) := by decide +kernel
theorem dX4_init_210 : decode cX4_init 210 = .ok (.iconst (-1), 1) := by decide +kernel
theorem dX4_init_211 : decode cX4_init 211 = .ok (.iastore, 1) := by decide +kernel
theorem dX4_init_212 : decode cX4_init 212 = .ok (.iinc 1 1, 3) := by decide +kernel
theorem dX4_init_215 : decode cX4_init 215 = .ok (.goto (-16), 3) := by decide +kernel
theorem dX4_init_218 : decode cX4_init 218 = .ok (.iconst 0, 1) := by decide +kernel
theorem dX4_init_219 : decode cX4_init 219 = .ok (.istore_n 1, 1) := by decide +kernel
theorem dX4_init_220 : decode cX4_init 220 = .ok (.iload_n 1, 1) := by decide +kernel
theorem dX4_init_221 : decode cX4_init 221 = .ok (.sipush 240, 3) := by decide +kernel
theorem dX4_init_224 : decode cX4_init 224 = .ok (.if_icmp .ge 16, 3) := by decide +kernel
theorem dX4_init_227 : decode cX4_init 227 = .ok (.aload_n 0, 1) := by decide +kernel
theorem dX4_init_228 : decode cX4_init 228 = .ok (.getfield 48, 3) := by decide +kernel
theorem dX4_init_231 : decode cX4_init 231 = .ok (.iload_n 1, 1) := by decide +kernel
theorem dX4_init_232 : decode cX4_init 232 = .ok (.iconst (-1), 1) := by decide +kernel
theorem dX4_init_233 : decode cX4_init 233 = .ok (.iastore, 1) := by decide +kernel
theorem dX4_init_234 : decode cX4_init 234 = .ok (.iinc 1 1, 3) := by decide +kernel
theorem dX4_init_237 : decode cX4_init 237 = .ok (.goto (-17), 3) := by decide +kernel
theorem dX4_init_240 : decode cX4_init 240 = .ok (.return_, 1) := by decide +kernel
theorem dX4_thrown_0 : decode cX4_thrown 0 = .ok (.aload_n 0, 1) := by decide +kernel
theorem dX4_thrown_1 : decode cX4_thrown 1 = .ok (.getfield 75, 3) := by decide +kernel
theorem dX4_thrown_4 : decode cX4_thrown 4 = .ok (.ireturn, 1) := by decide +kernel
theorem dX4_fails_0 : decode cX4_fails 0 = .ok (.aload_n 0, 1) := by decide +kernel
theorem dX4_fails_1 : decode cX4_fails 1 = .ok (.iload_n 1, 1) := by decide +kernel
theorem dX4_fails_2 : decode cX4_fails 2 = .ok (.putfield 75, 3) := by decide +kernel
theorem dX4_fails_5 : decode cX4_fails 5 = .ok (.iconst 0, 1) := by decide +kernel
theorem dX4_fails_6 : decode cX4_fails 6 = .ok (.ireturn, 1) := by decide +kernel
theorem dX4_asks_0 : decode cX4_asks 0 = .ok (.aload_n 0, 1) := by decide +kernel
theorem dX4_asks_1 : decode cX4_asks 1 = .ok (.iload_n 1, 1) := by decide +kernel
theorem dX4_asks_2 : decode cX4_asks 2 = .ok (.ifCond .eq 7, 3) := by decide +kernel
theorem dX4_asks_5 : decode cX4_asks 5 = .ok (.iconst 0, 1) := by decide +kernel
theorem dX4_asks_6 : decode cX4_asks 6 = .ok (.goto 4, 3) := by decide +kernel
theorem dX4_asks_9 : decode cX4_asks 9 = .ok (.iconst 1, 1) := by decide +kernel
theorem dX4_asks_10 : decode cX4_asks 10 = .ok (.putfield 75, 3) := by decide +kernel
theorem dX4_asks_13 : decode cX4_asks 13 = .ok (.iload_n 1, 1) := by decide +kernel
theorem dX4_asks_14 : decode cX4_asks 14 = .ok (.ireturn, 1) := by decide +kernel
theorem dX4_in_0 : decode cX4_in 0 = .ok (.iload_n 0, 1) := by decide +kernel
theorem dX4_in_1 : decode cX4_in 1 = .ok (.iload_n 1, 1) := by decide +kernel
theorem dX4_in_2 : decode cX4_in 2 = .ok (.if_icmp .lt 12, 3) := by decide +kernel
theorem dX4_in_5 : decode cX4_in 5 = .ok (.iload_n 0, 1) := by decide +kernel
theorem dX4_in_6 : decode cX4_in 6 = .ok (.iload_n 2, 1) := by decide +kernel
theorem dX4_in_7 : decode cX4_in 7 = .ok (.if_icmp .gt 7, 3) := by decide +kernel
theorem dX4_in_10 : decode cX4_in 10 = .ok (.iconst 1, 1) := by decide +kernel
theorem dX4_in_11 : decode cX4_in 11 = .ok (.goto 4, 3) := by decide +kernel
theorem dX4_in_14 : decode cX4_in 14 = .ok (.iconst 0, 1) := by decide +kernel
theorem dX4_in_15 : decode cX4_in 15 = .ok (.ireturn, 1) := by decide +kernel
set_option maxRecDepth 20000 in
theorem ggX4_isOffice_X4_in : GoodIn wsX4_isOffice wsX4_in := goodIn_r _ [5] (by decide +kernel) (by decide +kernel)
set_option maxRecDepth 20000 in
theorem gX4_isOffice_X4_in : GoodIn wsX4_isOffice (va_wsS RX4 82 yX4_in wsX4_in) := goodIn_app (goodIn_of _ (by decide +kernel)) ggX4_isOffice_X4_in
theorem dX4_isOffice_0 : decode cX4_isOffice 0 = .ok (.iload_n 1, 1) := by decide +kernel
theorem dX4_isOffice_1 : decode cX4_isOffice 1 = .ok (.iconst 0, 1) := by decide +kernel
theorem dX4_isOffice_2 : decode cX4_isOffice 2 = .ok (.aload_n 0, 1) := by decide +kernel
theorem dX4_isOffice_3 : decode cX4_isOffice 3 = .ok (.getfield 79, 3) := by decide +kernel
theorem dX4_isOffice_6 : decode cX4_isOffice 6 = .ok (.iconst 1, 1) := by decide +kernel
theorem dX4_isOffice_7 : decode cX4_isOffice 7 = .ok (.isub, 1) := by decide +kernel
theorem dX4_isOffice_8 : decode cX4_isOffice 8 = .ok (.invokestatic 82, 3) := by decide +kernel
theorem dX4_isOffice_11 : decode cX4_isOffice 11 = .ok (.ireturn, 1) := by decide +kernel
set_option maxRecDepth 20000 in
theorem ggX4_isAct_X4_in : GoodIn wsX4_isAct wsX4_in := goodIn_r _ [5] (by decide +kernel) (by decide +kernel)
set_option maxRecDepth 20000 in
theorem gX4_isAct_X4_in : GoodIn wsX4_isAct (va_wsS RX4 82 yX4_in wsX4_in) := goodIn_app (goodIn_of _ (by decide +kernel)) ggX4_isAct_X4_in
theorem dX4_isAct_0 : decode cX4_isAct 0 = .ok (.iload_n 1, 1) := by decide +kernel
theorem dX4_isAct_1 : decode cX4_isAct 1 = .ok (.iconst 0, 1) := by decide +kernel
theorem dX4_isAct_2 : decode cX4_isAct 2 = .ok (.aload_n 0, 1) := by decide +kernel
theorem dX4_isAct_3 : decode cX4_isAct 3 = .ok (.getfield 86, 3) := by decide +kernel
theorem dX4_isAct_6 : decode cX4_isAct 6 = .ok (.iconst 1, 1) := by decide +kernel
theorem dX4_isAct_7 : decode cX4_isAct 7 = .ok (.isub, 1) := by decide +kernel
theorem dX4_isAct_8 : decode cX4_isAct 8 = .ok (.invokestatic 82, 3) := by decide +kernel
theorem dX4_isAct_11 : decode cX4_isAct 11 = .ok (.ireturn, 1) := by decide +kernel
set_option maxRecDepth 20000 in
theorem ggX4_isKind_X4_in : GoodIn wsX4_isKind wsX4_in := goodIn_r _ [4] (by decide +kernel) (by decide +kernel)
set_option maxRecDepth 20000 in
theorem gX4_isKind_X4_in : GoodIn wsX4_isKind (va_wsS RX4 82 yX4_in wsX4_in) := goodIn_app (goodIn_of _ (by decide +kernel)) ggX4_isKind_X4_in
theorem dX4_isKind_0 : decode cX4_isKind 0 = .ok (.iload_n 0, 1) := by decide +kernel
theorem dX4_isKind_1 : decode cX4_isKind 1 = .ok (.iconst 0, 1) := by decide +kernel
theorem dX4_isKind_2 : decode cX4_isKind 2 = .ok (.iconst 3, 1) := by decide +kernel
theorem dX4_isKind_3 : decode cX4_isKind 3 = .ok (.invokestatic 82, 3) := by decide +kernel
theorem dX4_isKind_6 : decode cX4_isKind 6 = .ok (.ireturn, 1) := by decide +kernel
set_option maxRecDepth 20000 in
theorem ggX4_isComplaint_X4_in : GoodIn wsX4_isComplaint wsX4_in := goodIn_r _ [5] (by decide +kernel) (by decide +kernel)
set_option maxRecDepth 20000 in
theorem gX4_isComplaint_X4_in : GoodIn wsX4_isComplaint (va_wsS RX4 82 yX4_in wsX4_in) := goodIn_app (goodIn_of _ (by decide +kernel)) ggX4_isComplaint_X4_in
theorem dX4_isComplaint_0 : decode cX4_isComplaint 0 = .ok (.iload_n 1, 1) := by decide +kernel
theorem dX4_isComplaint_1 : decode cX4_isComplaint 1 = .ok (.iconst 0, 1) := by decide +kernel
theorem dX4_isComplaint_2 : decode cX4_isComplaint 2 = .ok (.aload_n 0, 1) := by decide +kernel
theorem dX4_isComplaint_3 : decode cX4_isComplaint 3 = .ok (.getfield 89, 3) := by decide +kernel
theorem dX4_isComplaint_6 : decode cX4_isComplaint 6 = .ok (.iconst 1, 1) := by decide +kernel
theorem dX4_isComplaint_7 : decode cX4_isComplaint 7 = .ok (.isub, 1) := by decide +kernel
theorem dX4_isComplaint_8 : decode cX4_isComplaint 8 = .ok (.invokestatic 82, 3) := by decide +kernel
theorem dX4_isComplaint_11 : decode cX4_isComplaint 11 = .ok (.ireturn, 1) := by decide +kernel
set_option maxRecDepth 20000 in
theorem ggX4_letter_X4_in : GoodIn wsX4_letter wsX4_in := goodIn_r _ [6] (by decide +kernel) (by decide +kernel)
set_option maxRecDepth 20000 in
theorem gX4_letter_X4_in : GoodIn wsX4_letter (va_wsS RX4 82 yX4_in wsX4_in) := goodIn_app (goodIn_of _ (by decide +kernel)) ggX4_letter_X4_in
set_option maxRecDepth 20000 in
theorem ggX4_letter_X4_asks : GoodIn wsX4_letter wsX4_asks := goodIn_r _ [10, 11, 16, 17, 18, 19, 20, 21, 22, 23, 24, 25, 26, 27, 28, 29, 30, 31, 32, 33, 34, 35, 36, 37, 38, 39, 40, 41, 42] (by decide +kernel) (by decide +kernel)
set_option maxRecDepth 20000 in
theorem gX4_letter_X4_asks : GoodIn wsX4_letter (wsV RX4 92 RX4 yX4_asks wsX4_asks) := goodIn_app (goodIn_of _ (by decide +kernel)) ggX4_letter_X4_asks
set_option maxRecDepth 20000 in
theorem ggX4_letter_X4_fails : GoodIn wsX4_letter wsX4_fails := goodIn_r _ [15, 11, 16, 17, 18, 19, 20, 21, 22, 23, 24, 25, 26, 27, 28, 29, 30, 31, 32, 33, 34, 35, 36, 37, 38, 39, 40, 41, 42] (by decide +kernel) (by decide +kernel)
set_option maxRecDepth 20000 in
theorem gX4_letter_X4_fails : GoodIn wsX4_letter (wsV RX4 99 RX4 yX4_fails wsX4_fails) := goodIn_app (goodIn_of _ (by decide +kernel)) ggX4_letter_X4_fails
theorem dX4_letter_0 : decode cX4_letter 0 = .ok (.aload_n 0, 1) := by decide +kernel
theorem dX4_letter_1 : decode cX4_letter 1 = .ok (.iload_n 1, 1) := by decide +kernel
theorem dX4_letter_2 : decode cX4_letter 2 = .ok (.bipush 97, 2) := by decide +kernel
theorem dX4_letter_4 : decode cX4_letter 4 = .ok (.bipush 122, 2) := by decide +kernel
theorem dX4_letter_6 : decode cX4_letter 6 = .ok (.invokestatic 82, 3) := by decide +kernel
theorem dX4_letter_9 : decode cX4_letter 9 = .ok (.invokevirtual 92, 3) := by decide +kernel
theorem dX4_letter_12 : decode cX4_letter 12 = .ok (.ifCond .ne 5, 3) := by decide +kernel
theorem dX4_letter_15 : decode cX4_letter 15 = .ok (.iconst 0, 1) := by decide +kernel
theorem dX4_letter_16 : decode cX4_letter 16 = .ok (.ireturn, 1) := by decide +kernel
theorem dX4_letter_17 : decode cX4_letter 17 = .ok (.aload_n 0, 1) := by decide +kernel
theorem dX4_letter_18 : decode cX4_letter 18 = .ok (.getfield 96, 3) := by decide +kernel
theorem dX4_letter_21 : decode cX4_letter 21 = .ok (.bipush 7, 2) := by decide +kernel
theorem dX4_letter_23 : decode cX4_letter 23 = .ok (.if_icmp .ne 9, 3) := by decide +kernel
theorem dX4_letter_26 : decode cX4_letter 26 = .ok (.aload_n 0, 1) := by decide +kernel
theorem dX4_letter_27 : decode cX4_letter 27 = .ok (.iconst 2, 1) := by decide +kernel
theorem dX4_letter_28 : decode cX4_letter 28 = .ok (.invokevirtual 99, 3) := by decide +kernel
theorem dX4_letter_31 : decode cX4_letter 31 = .ok (.ireturn, 1) := by decide +kernel
theorem dX4_letter_32 : decode cX4_letter 32 = .ok (.aload_n 0, 1) := by decide +kernel
theorem dX4_letter_33 : decode cX4_letter 33 = .ok (.getfield 7, 3) := by decide +kernel
theorem dX4_letter_36 : decode cX4_letter 36 = .ok (.aload_n 0, 1) := by decide +kernel
theorem dX4_letter_37 : decode cX4_letter 37 = .ok (.getfield 96, 3) := by decide +kernel
theorem dX4_letter_40 : decode cX4_letter 40 = .ok (.iload_n 1, 1) := by decide +kernel
theorem dX4_letter_41 : decode cX4_letter 41 = .ok (.iastore, 1) := by decide +kernel
theorem dX4_letter_42 : decode cX4_letter 42 = .ok (.aload_n 0, 1) := by decide +kernel
theorem dX4_letter_43 : decode cX4_letter 43 = .ok (.dup, 1) := by decide +kernel
theorem dX4_letter_44 : decode cX4_letter 44 = .ok (.getfield 96, 3) := by decide +kernel
theorem dX4_letter_47 : decode cX4_letter 47 = .ok (.iconst 1, 1) := by decide +kernel
theorem dX4_letter_48 : decode cX4_letter 48 = .ok (.iadd, 1) := by decide +kernel
theorem dX4_letter_49 : decode cX4_letter 49 = .ok (.putfield 96, 3) := by decide +kernel
theorem dX4_letter_52 : decode cX4_letter 52 = .ok (.aload_n 0, 1) := by decide +kernel
theorem dX4_letter_53 : decode cX4_letter 53 = .ok (.getfield 96, 3) := by decide +kernel
theorem dX4_letter_56 : decode cX4_letter 56 = .ok (.ireturn, 1) := by decide +kernel
theorem dX4_isTyped_0 : decode cX4_isTyped 0 = .ok (.iload_n 1, 1) := by decide +kernel
theorem dX4_isTyped_1 : decode cX4_isTyped 1 = .ok (.tableswitch 247 0 2 #[27, 96, 189], 27) := by decide +kernel
theorem dX4_isTyped_28 : decode cX4_isTyped 28 = .ok (.aload_n 0, 1) := by decide +kernel
theorem dX4_isTyped_29 : decode cX4_isTyped 29 = .ok (.getfield 96, 3) := by decide +kernel
theorem dX4_isTyped_32 : decode cX4_isTyped 32 = .ok (.iconst 5, 1) := by decide +kernel
theorem dX4_isTyped_33 : decode cX4_isTyped 33 = .ok (.if_icmp .ne 62, 3) := by decide +kernel
theorem dX4_isTyped_36 : decode cX4_isTyped 36 = .ok (.aload_n 0, 1) := by decide +kernel
theorem dX4_isTyped_37 : decode cX4_isTyped 37 = .ok (.getfield 7, 3) := by decide +kernel
theorem dX4_isTyped_40 : decode cX4_isTyped 40 = .ok (.iconst 0, 1) := by decide +kernel
theorem dX4_isTyped_41 : decode cX4_isTyped 41 = .ok (.iaload, 1) := by decide +kernel
theorem dX4_isTyped_42 : decode cX4_isTyped 42 = .ok (.bipush 100, 2) := by decide +kernel
theorem dX4_isTyped_44 : decode cX4_isTyped 44 = .ok (.if_icmp .ne 51, 3) := by decide +kernel
theorem dX4_isTyped_47 : decode cX4_isTyped 47 = .ok (.aload_n 0, 1) := by decide +kernel
theorem dX4_isTyped_48 : decode cX4_isTyped 48 = .ok (.getfield 7, 3) := by decide +kernel
theorem dX4_isTyped_51 : decode cX4_isTyped 51 = .ok (.iconst 1, 1) := by decide +kernel
theorem dX4_isTyped_52 : decode cX4_isTyped 52 = .ok (.iaload, 1) := by decide +kernel
theorem dX4_isTyped_53 : decode cX4_isTyped 53 = .ok (.bipush 101, 2) := by decide +kernel
theorem dX4_isTyped_55 : decode cX4_isTyped 55 = .ok (.if_icmp .ne 40, 3) := by decide +kernel
theorem dX4_isTyped_58 : decode cX4_isTyped 58 = .ok (.aload_n 0, 1) := by decide +kernel
theorem dX4_isTyped_59 : decode cX4_isTyped 59 = .ok (.getfield 7, 3) := by decide +kernel
theorem dX4_isTyped_62 : decode cX4_isTyped 62 = .ok (.iconst 2, 1) := by decide +kernel
theorem dX4_isTyped_63 : decode cX4_isTyped 63 = .ok (.iaload, 1) := by decide +kernel
theorem dX4_isTyped_64 : decode cX4_isTyped 64 = .ok (.bipush 108, 2) := by decide +kernel
theorem dX4_isTyped_66 : decode cX4_isTyped 66 = .ok (.if_icmp .ne 29, 3) := by decide +kernel
theorem dX4_isTyped_69 : decode cX4_isTyped 69 = .ok (.aload_n 0, 1) := by decide +kernel
theorem dX4_isTyped_70 : decode cX4_isTyped 70 = .ok (.getfield 7, 3) := by decide +kernel
theorem dX4_isTyped_73 : decode cX4_isTyped 73 = .ok (.iconst 3, 1) := by decide +kernel
theorem dX4_isTyped_74 : decode cX4_isTyped 74 = .ok (.iaload, 1) := by decide +kernel
theorem dX4_isTyped_75 : decode cX4_isTyped 75 = .ok (.bipush 97, 2) := by decide +kernel
theorem dX4_isTyped_77 : decode cX4_isTyped 77 = .ok (.if_icmp .ne 18, 3) := by decide +kernel
theorem dX4_isTyped_80 : decode cX4_isTyped 80 = .ok (.aload_n 0, 1) := by decide +kernel
theorem dX4_isTyped_81 : decode cX4_isTyped 81 = .ok (.getfield 7, 3) := by decide +kernel
theorem dX4_isTyped_84 : decode cX4_isTyped 84 = .ok (.iconst 4, 1) := by decide +kernel
theorem dX4_isTyped_85 : decode cX4_isTyped 85 = .ok (.iaload, 1) := by decide +kernel
theorem dX4_isTyped_86 : decode cX4_isTyped 86 = .ok (.bipush 121, 2) := by decide +kernel
theorem dX4_isTyped_88 : decode cX4_isTyped 88 = .ok (.if_icmp .ne 7, 3) := by decide +kernel
theorem dX4_isTyped_91 : decode cX4_isTyped 91 = .ok (.iconst 1, 1) := by decide +kernel
theorem dX4_isTyped_92 : decode cX4_isTyped 92 = .ok (.goto 4, 3) := by decide +kernel
theorem dX4_isTyped_95 : decode cX4_isTyped 95 = .ok (.iconst 0, 1) := by decide +kernel
theorem dX4_isTyped_96 : decode cX4_isTyped 96 = .ok (.ireturn, 1) := by decide +kernel
theorem dX4_isTyped_97 : decode cX4_isTyped 97 = .ok (.aload_n 0, 1) := by decide +kernel
theorem dX4_isTyped_98 : decode cX4_isTyped 98 = .ok (.getfield 96, 3) := by decide +kernel
theorem dX4_isTyped_101 : decode cX4_isTyped 101 = .ok (.bipush 7, 2) := by decide +kernel
theorem dX4_isTyped_103 : decode cX4_isTyped 103 = .ok (.if_icmp .ne 85, 3) := by decide +kernel
theorem dX4_isTyped_106 : decode cX4_isTyped 106 = .ok (.aload_n 0, 1) := by decide +kernel
theorem dX4_isTyped_107 : decode cX4_isTyped 107 = .ok (.getfield 7, 3) := by decide +kernel
theorem dX4_isTyped_110 : decode cX4_isTyped 110 = .ok (.iconst 0, 1) := by decide +kernel
theorem dX4_isTyped_111 : decode cX4_isTyped 111 = .ok (.iaload, 1) := by decide +kernel
theorem dX4_isTyped_112 : decode cX4_isTyped 112 = .ok (.bipush 112, 2) := by decide +kernel
theorem dX4_isTyped_114 : decode cX4_isTyped 114 = .ok (.if_icmp .ne 74, 3) := by decide +kernel
theorem dX4_isTyped_117 : decode cX4_isTyped 117 = .ok (.aload_n 0, 1) := by decide +kernel
theorem dX4_isTyped_118 : decode cX4_isTyped 118 = .ok (.getfield 7, 3) := by decide +kernel
theorem dX4_isTyped_121 : decode cX4_isTyped 121 = .ok (.iconst 1, 1) := by decide +kernel
theorem dX4_isTyped_122 : decode cX4_isTyped 122 = .ok (.iaload, 1) := by decide +kernel
theorem dX4_isTyped_123 : decode cX4_isTyped 123 = .ok (.bipush 114, 2) := by decide +kernel
theorem dX4_isTyped_125 : decode cX4_isTyped 125 = .ok (.if_icmp .ne 63, 3) := by decide +kernel
theorem dX4_isTyped_128 : decode cX4_isTyped 128 = .ok (.aload_n 0, 1) := by decide +kernel
theorem dX4_isTyped_129 : decode cX4_isTyped 129 = .ok (.getfield 7, 3) := by decide +kernel
theorem dX4_isTyped_132 : decode cX4_isTyped 132 = .ok (.iconst 2, 1) := by decide +kernel
theorem dX4_isTyped_133 : decode cX4_isTyped 133 = .ok (.iaload, 1) := by decide +kernel
theorem dX4_isTyped_134 : decode cX4_isTyped 134 = .ok (.bipush 111, 2) := by decide +kernel
theorem dX4_isTyped_136 : decode cX4_isTyped 136 = .ok (.if_icmp .ne 52, 3) := by decide +kernel
theorem dX4_isTyped_139 : decode cX4_isTyped 139 = .ok (.aload_n 0, 1) := by decide +kernel
theorem dX4_isTyped_140 : decode cX4_isTyped 140 = .ok (.getfield 7, 3) := by decide +kernel
theorem dX4_isTyped_143 : decode cX4_isTyped 143 = .ok (.iconst 3, 1) := by decide +kernel
theorem dX4_isTyped_144 : decode cX4_isTyped 144 = .ok (.iaload, 1) := by decide +kernel
theorem dX4_isTyped_145 : decode cX4_isTyped 145 = .ok (.bipush 109, 2) := by decide +kernel
theorem dX4_isTyped_147 : decode cX4_isTyped 147 = .ok (.if_icmp .ne 41, 3) := by decide +kernel
theorem dX4_isTyped_150 : decode cX4_isTyped 150 = .ok (.aload_n 0, 1) := by decide +kernel
theorem dX4_isTyped_151 : decode cX4_isTyped 151 = .ok (.getfield 7, 3) := by decide +kernel
theorem dX4_isTyped_154 : decode cX4_isTyped 154 = .ok (.iconst 4, 1) := by decide +kernel
theorem dX4_isTyped_155 : decode cX4_isTyped 155 = .ok (.iaload, 1) := by decide +kernel
theorem dX4_isTyped_156 : decode cX4_isTyped 156 = .ok (.bipush 105, 2) := by decide +kernel
theorem dX4_isTyped_158 : decode cX4_isTyped 158 = .ok (.if_icmp .ne 30, 3) := by decide +kernel
theorem dX4_isTyped_161 : decode cX4_isTyped 161 = .ok (.aload_n 0, 1) := by decide +kernel
theorem dX4_isTyped_162 : decode cX4_isTyped 162 = .ok (.getfield 7, 3) := by decide +kernel
theorem dX4_isTyped_165 : decode cX4_isTyped 165 = .ok (.iconst 5, 1) := by decide +kernel
theorem dX4_isTyped_166 : decode cX4_isTyped 166 = .ok (.iaload, 1) := by decide +kernel
theorem dX4_isTyped_167 : decode cX4_isTyped 167 = .ok (.bipush 115, 2) := by decide +kernel
theorem dX4_isTyped_169 : decode cX4_isTyped 169 = .ok (.if_icmp .ne 19, 3) := by decide +kernel
theorem dX4_isTyped_172 : decode cX4_isTyped 172 = .ok (.aload_n 0, 1) := by decide +kernel
theorem dX4_isTyped_173 : decode cX4_isTyped 173 = .ok (.getfield 7, 3) := by decide +kernel
theorem dX4_isTyped_176 : decode cX4_isTyped 176 = .ok (.bipush 6, 2) := by decide +kernel
theorem dX4_isTyped_178 : decode cX4_isTyped 178 = .ok (.iaload, 1) := by decide +kernel
theorem dX4_isTyped_179 : decode cX4_isTyped 179 = .ok (.bipush 101, 2) := by decide +kernel
theorem dX4_isTyped_181 : decode cX4_isTyped 181 = .ok (.if_icmp .ne 7, 3) := by decide +kernel
theorem dX4_isTyped_184 : decode cX4_isTyped 184 = .ok (.iconst 1, 1) := by decide +kernel
theorem dX4_isTyped_185 : decode cX4_isTyped 185 = .ok (.goto 4, 3) := by decide +kernel
theorem dX4_isTyped_188 : decode cX4_isTyped 188 = .ok (.iconst 0, 1) := by decide +kernel
theorem dX4_isTyped_189 : decode cX4_isTyped 189 = .ok (.ireturn, 1) := by decide +kernel
theorem dX4_isTyped_190 : decode cX4_isTyped 190 = .ok (.aload_n 0, 1) := by decide +kernel
theorem dX4_isTyped_191 : decode cX4_isTyped 191 = .ok (.getfield 96, 3) := by decide +kernel
theorem dX4_isTyped_194 : decode cX4_isTyped 194 = .ok (.iconst 4, 1) := by decide +kernel
theorem dX4_isTyped_195 : decode cX4_isTyped 195 = .ok (.if_icmp .ne 51, 3) := by decide +kernel
theorem dX4_isTyped_198 : decode cX4_isTyped 198 = .ok (.aload_n 0, 1) := by decide +kernel
theorem dX4_isTyped_199 : decode cX4_isTyped 199 = .ok (.getfield 7, 3) := by decide +kernel
theorem dX4_isTyped_202 : decode cX4_isTyped 202 = .ok (.iconst 0, 1) := by decide +kernel
theorem dX4_isTyped_203 : decode cX4_isTyped 203 = .ok (.iaload, 1) := by decide +kernel
theorem dX4_isTyped_204 : decode cX4_isTyped 204 = .ok (.bipush 114, 2) := by decide +kernel
theorem dX4_isTyped_206 : decode cX4_isTyped 206 = .ok (.if_icmp .ne 40, 3) := by decide +kernel
theorem dX4_isTyped_209 : decode cX4_isTyped 209 = .ok (.aload_n 0, 1) := by decide +kernel
theorem dX4_isTyped_210 : decode cX4_isTyped 210 = .ok (.getfield 7, 3) := by decide +kernel
theorem dX4_isTyped_213 : decode cX4_isTyped 213 = .ok (.iconst 1, 1) := by decide +kernel
theorem dX4_isTyped_214 : decode cX4_isTyped 214 = .ok (.iaload, 1) := by decide +kernel
theorem dX4_isTyped_215 : decode cX4_isTyped 215 = .ok (.bipush 117, 2) := by decide +kernel
theorem dX4_isTyped_217 : decode cX4_isTyped 217 = .ok (.if_icmp .ne 29, 3) := by decide +kernel
theorem dX4_isTyped_220 : decode cX4_isTyped 220 = .ok (.aload_n 0, 1) := by decide +kernel
theorem dX4_isTyped_221 : decode cX4_isTyped 221 = .ok (.getfield 7, 3) := by decide +kernel
theorem dX4_isTyped_224 : decode cX4_isTyped 224 = .ok (.iconst 2, 1) := by decide +kernel
theorem dX4_isTyped_225 : decode cX4_isTyped 225 = .ok (.iaload, 1) := by decide +kernel
theorem dX4_isTyped_226 : decode cX4_isTyped 226 = .ok (.bipush 108, 2) := by decide +kernel
theorem dX4_isTyped_228 : decode cX4_isTyped 228 = .ok (.if_icmp .ne 18, 3) := by decide +kernel
theorem dX4_isTyped_231 : decode cX4_isTyped 231 = .ok (.aload_n 0, 1) := by decide +kernel
theorem dX4_isTyped_232 : decode cX4_isTyped 232 = .ok (.getfield 7, 3) := by decide +kernel
theorem dX4_isTyped_235 : decode cX4_isTyped 235 = .ok (.iconst 3, 1) := by decide +kernel
theorem dX4_isTyped_236 : decode cX4_isTyped 236 = .ok (.iaload, 1) := by decide +kernel
theorem dX4_isTyped_237 : decode cX4_isTyped 237 = .ok (.bipush 101, 2) := by decide +kernel
theorem dX4_isTyped_239 : decode cX4_isTyped 239 = .ok (.if_icmp .ne 7, 3) := by decide +kernel
theorem dX4_isTyped_242 : decode cX4_isTyped 242 = .ok (.iconst 1, 1) := by decide +kernel
theorem dX4_isTyped_243 : decode cX4_isTyped 243 = .ok (.goto 4, 3) := by decide +kernel
theorem dX4_isTyped_246 : decode cX4_isTyped 246 = .ok (.iconst 0, 1) := by decide +kernel
theorem dX4_isTyped_247 : decode cX4_isTyped 247 = .ok (.ireturn, 1) := by decide +kernel
theorem dX4_isTyped_248 : decode cX4_isTyped 248 = .ok (.aload_n 0, 1) := by decide +kernel
theorem dX4_isTyped_249 : decode cX4_isTyped 249 = .ok (.getfield 96, 3) := by decide +kernel
theorem dX4_isTyped_252 : decode cX4_isTyped 252 = .ok (.bipush 6, 2) := by decide +kernel
theorem dX4_isTyped_254 : decode cX4_isTyped 254 = .ok (.if_icmp .ne 73, 3) := by decide +kernel
theorem dX4_isTyped_257 : decode cX4_isTyped 257 = .ok (.aload_n 0, 1) := by decide +kernel
theorem dX4_isTyped_258 : decode cX4_isTyped 258 = .ok (.getfield 7, 3) := by decide +kernel
theorem dX4_isTyped_261 : decode cX4_isTyped 261 = .ok (.iconst 0, 1) := by decide +kernel
theorem dX4_isTyped_262 : decode cX4_isTyped 262 = .ok (.iaload, 1) := by decide +kernel
theorem dX4_isTyped_263 : decode cX4_isTyped 263 = .ok (.bipush 97, 2) := by decide +kernel
theorem dX4_isTyped_265 : decode cX4_isTyped 265 = .ok (.if_icmp .ne 62, 3) := by decide +kernel
theorem dX4_isTyped_268 : decode cX4_isTyped 268 = .ok (.aload_n 0, 1) := by decide +kernel
theorem dX4_isTyped_269 : decode cX4_isTyped 269 = .ok (.getfield 7, 3) := by decide +kernel
theorem dX4_isTyped_272 : decode cX4_isTyped 272 = .ok (.iconst 1, 1) := by decide +kernel
theorem dX4_isTyped_273 : decode cX4_isTyped 273 = .ok (.iaload, 1) := by decide +kernel
theorem dX4_isTyped_274 : decode cX4_isTyped 274 = .ok (.bipush 110, 2) := by decide +kernel
theorem dX4_isTyped_276 : decode cX4_isTyped 276 = .ok (.if_icmp .ne 51, 3) := by decide +kernel
theorem dX4_isTyped_279 : decode cX4_isTyped 279 = .ok (.aload_n 0, 1) := by decide +kernel
theorem dX4_isTyped_280 : decode cX4_isTyped 280 = .ok (.getfield 7, 3) := by decide +kernel
theorem dX4_isTyped_283 : decode cX4_isTyped 283 = .ok (.iconst 2, 1) := by decide +kernel
theorem dX4_isTyped_284 : decode cX4_isTyped 284 = .ok (.iaload, 1) := by decide +kernel
theorem dX4_isTyped_285 : decode cX4_isTyped 285 = .ok (.bipush 115, 2) := by decide +kernel
theorem dX4_isTyped_287 : decode cX4_isTyped 287 = .ok (.if_icmp .ne 40, 3) := by decide +kernel
theorem dX4_isTyped_290 : decode cX4_isTyped 290 = .ok (.aload_n 0, 1) := by decide +kernel
theorem dX4_isTyped_291 : decode cX4_isTyped 291 = .ok (.getfield 7, 3) := by decide +kernel
theorem dX4_isTyped_294 : decode cX4_isTyped 294 = .ok (.iconst 3, 1) := by decide +kernel
theorem dX4_isTyped_295 : decode cX4_isTyped 295 = .ok (.iaload, 1) := by decide +kernel
theorem dX4_isTyped_296 : decode cX4_isTyped 296 = .ok (.bipush 119, 2) := by decide +kernel
theorem dX4_isTyped_298 : decode cX4_isTyped 298 = .ok (.if_icmp .ne 29, 3) := by decide +kernel
theorem dX4_isTyped_301 : decode cX4_isTyped 301 = .ok (.aload_n 0, 1) := by decide +kernel
theorem dX4_isTyped_302 : decode cX4_isTyped 302 = .ok (.getfield 7, 3) := by decide +kernel
theorem dX4_isTyped_305 : decode cX4_isTyped 305 = .ok (.iconst 4, 1) := by decide +kernel
theorem dX4_isTyped_306 : decode cX4_isTyped 306 = .ok (.iaload, 1) := by decide +kernel
theorem dX4_isTyped_307 : decode cX4_isTyped 307 = .ok (.bipush 101, 2) := by decide +kernel
theorem dX4_isTyped_309 : decode cX4_isTyped 309 = .ok (.if_icmp .ne 18, 3) := by decide +kernel
theorem dX4_isTyped_312 : decode cX4_isTyped 312 = .ok (.aload_n 0, 1) := by decide +kernel
theorem dX4_isTyped_313 : decode cX4_isTyped 313 = .ok (.getfield 7, 3) := by decide +kernel
theorem dX4_isTyped_316 : decode cX4_isTyped 316 = .ok (.iconst 5, 1) := by decide +kernel
theorem dX4_isTyped_317 : decode cX4_isTyped 317 = .ok (.iaload, 1) := by decide +kernel
theorem dX4_isTyped_318 : decode cX4_isTyped 318 = .ok (.bipush 114, 2) := by decide +kernel
theorem dX4_isTyped_320 : decode cX4_isTyped 320 = .ok (.if_icmp .ne 7, 3) := by decide +kernel
theorem dX4_isTyped_323 : decode cX4_isTyped 323 = .ok (.iconst 1, 1) := by decide +kernel
theorem dX4_isTyped_324 : decode cX4_isTyped 324 = .ok (.goto 4, 3) := by decide +kernel
theorem dX4_isTyped_327 : decode cX4_isTyped 327 = .ok (.iconst 0, 1) := by decide +kernel
theorem dX4_isTyped_328 : decode cX4_isTyped 328 = .ok (.ireturn, 1) := by decide +kernel
set_option maxRecDepth 20000 in
theorem ggX4_office_X4_isOffice : GoodIn wsX4_office wsX4_isOffice := goodIn_r _ [7, 1, 8, 9, 6, 10, 20, 21, 22, 23, 24, 25, 26, 27, 28, 29, 30, 31, 32, 33, 34, 35, 36, 37, 38, 39, 40, 41, 42, 43, 44, 45, 46] (by decide +kernel) (by decide +kernel)
set_option maxRecDepth 20000 in
theorem gX4_office_X4_isOffice : GoodIn wsX4_office (wsV RX4 103 RX4 yX4_isOffice wsX4_isOffice) := goodIn_app (goodIn_of _ (by decide +kernel)) ggX4_office_X4_isOffice
set_option maxRecDepth 20000 in
theorem ggX4_office_X4_asks : GoodIn wsX4_office wsX4_asks := goodIn_r _ [14, 15, 20, 21, 22, 23, 24, 25, 26, 27, 28, 29, 30, 31, 32, 33, 34, 35, 36, 37, 38, 39, 40, 41, 42, 43, 44, 45, 46] (by decide +kernel) (by decide +kernel)
set_option maxRecDepth 20000 in
theorem gX4_office_X4_asks : GoodIn wsX4_office (wsV RX4 92 RX4 yX4_asks wsX4_asks) := goodIn_app (goodIn_of _ (by decide +kernel)) ggX4_office_X4_asks
set_option maxRecDepth 20000 in
theorem ggX4_office_X4_fails : GoodIn wsX4_office wsX4_fails := goodIn_r _ [19, 15, 20, 21, 22, 23, 24, 25, 26, 27, 28, 29, 30, 31, 32, 33, 34, 35, 36, 37, 38, 39, 40, 41, 42, 43, 44, 45, 46] (by decide +kernel) (by decide +kernel)
set_option maxRecDepth 20000 in
theorem gX4_office_X4_fails : GoodIn wsX4_office (wsV RX4 99 RX4 yX4_fails wsX4_fails) := goodIn_app (goodIn_of _ (by decide +kernel)) ggX4_office_X4_fails
theorem dX4_office_0 : decode cX4_office 0 = .ok (.aload_n 0, 1) := by decide +kernel
theorem dX4_office_1 : decode cX4_office 1 = .ok (.iload_n 1, 1) := by decide +kernel
theorem dX4_office_2 : decode cX4_office 2 = .ok (.iconst (-1), 1) := by decide +kernel
theorem dX4_office_3 : decode cX4_office 3 = .ok (.if_icmp .eq 11, 3) := by decide +kernel
theorem dX4_office_6 : decode cX4_office 6 = .ok (.aload_n 0, 1) := by decide +kernel
theorem dX4_office_7 : decode cX4_office 7 = .ok (.iload_n 1, 1) := by decide +kernel
theorem dX4_office_8 : decode cX4_office 8 = .ok (.invokevirtual 103, 3) := by decide +kernel
theorem dX4_office_11 : decode cX4_office 11 = .ok (.ifCond .eq 7, 3) := by decide +kernel
theorem dX4_office_14 : decode cX4_office 14 = .ok (.iconst 1, 1) := by decide +kernel
theorem dX4_office_15 : decode cX4_office 15 = .ok (.goto 4, 3) := by decide +kernel
theorem dX4_office_18 : decode cX4_office 18 = .ok (.iconst 0, 1) := by decide +kernel
theorem dX4_office_19 : decode cX4_office 19 = .ok (.invokevirtual 92, 3) := by decide +kernel
theorem dX4_office_22 : decode cX4_office 22 = .ok (.ifCond .ne 5, 3) := by decide +kernel
theorem dX4_office_25 : decode cX4_office 25 = .ok (.iconst 0, 1) := by decide +kernel
theorem dX4_office_26 : decode cX4_office 26 = .ok (.ireturn, 1) := by decide +kernel
theorem dX4_office_27 : decode cX4_office 27 = .ok (.aload_n 0, 1) := by decide +kernel
theorem dX4_office_28 : decode cX4_office 28 = .ok (.getfield 79, 3) := by decide +kernel
theorem dX4_office_31 : decode cX4_office 31 = .ok (.bipush 10, 2) := by decide +kernel
theorem dX4_office_33 : decode cX4_office 33 = .ok (.if_icmp .ne 9, 3) := by decide +kernel
theorem dX4_office_36 : decode cX4_office 36 = .ok (.aload_n 0, 1) := by decide +kernel
theorem dX4_office_37 : decode cX4_office 37 = .ok (.iconst 2, 1) := by decide +kernel
theorem dX4_office_38 : decode cX4_office 38 = .ok (.invokevirtual 99, 3) := by decide +kernel
theorem dX4_office_41 : decode cX4_office 41 = .ok (.ireturn, 1) := by decide +kernel
theorem dX4_office_42 : decode cX4_office 42 = .ok (.aload_n 0, 1) := by decide +kernel
theorem dX4_office_43 : decode cX4_office 43 = .ok (.getfield 13, 3) := by decide +kernel
theorem dX4_office_46 : decode cX4_office 46 = .ok (.aload_n 0, 1) := by decide +kernel
theorem dX4_office_47 : decode cX4_office 47 = .ok (.getfield 79, 3) := by decide +kernel
theorem dX4_office_50 : decode cX4_office 50 = .ok (.iload_n 1, 1) := by decide +kernel
theorem dX4_office_51 : decode cX4_office 51 = .ok (.iastore, 1) := by decide +kernel
theorem dX4_office_52 : decode cX4_office 52 = .ok (.aload_n 0, 1) := by decide +kernel
theorem dX4_office_53 : decode cX4_office 53 = .ok (.dup, 1) := by decide +kernel
theorem dX4_office_54 : decode cX4_office 54 = .ok (.getfield 79, 3) := by decide +kernel
theorem dX4_office_57 : decode cX4_office 57 = .ok (.iconst 1, 1) := by decide +kernel
theorem dX4_office_58 : decode cX4_office 58 = .ok (.iadd, 1) := by decide +kernel
theorem dX4_office_59 : decode cX4_office 59 = .ok (.putfield 79, 3) := by decide +kernel
theorem dX4_office_62 : decode cX4_office 62 = .ok (.aload_n 0, 1) := by decide +kernel
theorem dX4_office_63 : decode cX4_office 63 = .ok (.getfield 79, 3) := by decide +kernel
theorem dX4_office_66 : decode cX4_office 66 = .ok (.iconst 1, 1) := by decide +kernel
theorem dX4_office_67 : decode cX4_office 67 = .ok (.isub, 1) := by decide +kernel
theorem dX4_office_68 : decode cX4_office 68 = .ok (.ireturn, 1) := by decide +kernel
set_option maxRecDepth 20000 in
theorem ggX4_delegate_X4_isOffice : GoodIn wsX4_delegate wsX4_isOffice := goodIn_r _ [7, 8, 9, 10, 6, 11, 21, 22, 23, 24, 25, 26, 27, 28, 29, 30, 31, 32, 33, 34, 35, 36, 37, 38, 39, 40, 41, 42, 43, 44, 45, 46, 47] (by decide +kernel) (by decide +kernel)
set_option maxRecDepth 20000 in
theorem gX4_delegate_X4_isOffice : GoodIn wsX4_delegate (wsV RX4 103 RX4 yX4_isOffice wsX4_isOffice) := goodIn_app (goodIn_of _ (by decide +kernel)) ggX4_delegate_X4_isOffice
set_option maxRecDepth 20000 in
theorem ggX4_delegate_X4_asks : GoodIn wsX4_delegate wsX4_asks := goodIn_r _ [15, 16, 21, 22, 23, 24, 25, 26, 27, 28, 29, 30, 31, 32, 33, 34, 35, 36, 37, 38, 39, 40, 41, 42, 43, 44, 45, 46, 47] (by decide +kernel) (by decide +kernel)
set_option maxRecDepth 20000 in
theorem gX4_delegate_X4_asks : GoodIn wsX4_delegate (wsV RX4 92 RX4 yX4_asks wsX4_asks) := goodIn_app (goodIn_of _ (by decide +kernel)) ggX4_delegate_X4_asks
set_option maxRecDepth 20000 in
theorem ggX4_delegate_X4_fails : GoodIn wsX4_delegate wsX4_fails := goodIn_r _ [20, 16, 21, 22, 23, 24, 25, 26, 27, 28, 29, 30, 31, 32, 33, 34, 35, 36, 37, 38, 39, 40, 41, 42, 43, 44, 45, 46, 47] (by decide +kernel) (by decide +kernel)
set_option maxRecDepth 20000 in
theorem gX4_delegate_X4_fails : GoodIn wsX4_delegate (wsV RX4 99 RX4 yX4_fails wsX4_fails) := goodIn_app (goodIn_of _ (by decide +kernel)) ggX4_delegate_X4_fails
theorem dX4_delegate_0 : decode cX4_delegate 0 = .ok (.aload_n 0, 1) := by decide +kernel
theorem dX4_delegate_1 : decode cX4_delegate 1 = .ok (.aload_n 0, 1) := by decide +kernel
theorem dX4_delegate_2 : decode cX4_delegate 2 = .ok (.iload_n 1, 1) := by decide +kernel
theorem dX4_delegate_3 : decode cX4_delegate 3 = .ok (.invokevirtual 103, 3) := by decide +kernel
theorem dX4_delegate_6 : decode cX4_delegate 6 = .ok (.ifCond .eq 20, 3) := by decide +kernel
theorem dX4_delegate_9 : decode cX4_delegate 9 = .ok (.iload_n 2, 1) := by decide +kernel
theorem dX4_delegate_10 : decode cX4_delegate 10 = .ok (.iconst (-1), 1) := by decide +kernel
theorem dX4_delegate_11 : decode cX4_delegate 11 = .ok (.if_icmp .eq 11, 3) := by decide +kernel
theorem dX4_delegate_14 : decode cX4_delegate 14 = .ok (.aload_n 0, 1) := by decide +kernel
theorem dX4_delegate_15 : decode cX4_delegate 15 = .ok (.iload_n 2, 1) := by decide +kernel
theorem dX4_delegate_16 : decode cX4_delegate 16 = .ok (.invokevirtual 103, 3) := by decide +kernel
theorem dX4_delegate_19 : decode cX4_delegate 19 = .ok (.ifCond .eq 7, 3) := by decide +kernel
theorem dX4_delegate_22 : decode cX4_delegate 22 = .ok (.iconst 1, 1) := by decide +kernel
theorem dX4_delegate_23 : decode cX4_delegate 23 = .ok (.goto 4, 3) := by decide +kernel
theorem dX4_delegate_26 : decode cX4_delegate 26 = .ok (.iconst 0, 1) := by decide +kernel
theorem dX4_delegate_27 : decode cX4_delegate 27 = .ok (.invokevirtual 92, 3) := by decide +kernel
theorem dX4_delegate_30 : decode cX4_delegate 30 = .ok (.ifCond .ne 5, 3) := by decide +kernel
theorem dX4_delegate_33 : decode cX4_delegate 33 = .ok (.iconst 0, 1) := by decide +kernel
theorem dX4_delegate_34 : decode cX4_delegate 34 = .ok (.ireturn, 1) := by decide +kernel
theorem dX4_delegate_35 : decode cX4_delegate 35 = .ok (.iload_n 1, 1) := by decide +kernel
theorem dX4_delegate_36 : decode cX4_delegate 36 = .ok (.iload_n 2, 1) := by decide +kernel
theorem dX4_delegate_37 : decode cX4_delegate 37 = .ok (.if_icmp .ne 9, 3) := by decide +kernel
theorem dX4_delegate_40 : decode cX4_delegate 40 = .ok (.aload_n 0, 1) := by decide +kernel
theorem dX4_delegate_41 : decode cX4_delegate 41 = .ok (.iconst 2, 1) := by decide +kernel
theorem dX4_delegate_42 : decode cX4_delegate 42 = .ok (.invokevirtual 99, 3) := by decide +kernel
theorem dX4_delegate_45 : decode cX4_delegate 45 = .ok (.ireturn, 1) := by decide +kernel
theorem dX4_delegate_46 : decode cX4_delegate 46 = .ok (.aload_n 0, 1) := by decide +kernel
theorem dX4_delegate_47 : decode cX4_delegate 47 = .ok (.getfield 17, 3) := by decide +kernel
theorem dX4_delegate_50 : decode cX4_delegate 50 = .ok (.sipush 5001, 3) := by decide +kernel
theorem dX4_delegate_53 : decode cX4_delegate 53 = .ok (.iload_n 1, 1) := by decide +kernel
theorem dX4_delegate_54 : decode cX4_delegate 54 = .ok (.imul, 1) := by decide +kernel
theorem dX4_delegate_55 : decode cX4_delegate 55 = .ok (.aload_n 0, 1) := by decide +kernel
theorem dX4_delegate_56 : decode cX4_delegate 56 = .ok (.getfield 107, 3) := by decide +kernel
theorem dX4_delegate_59 : decode cX4_delegate 59 = .ok (.iadd, 1) := by decide +kernel
theorem dX4_delegate_60 : decode cX4_delegate 60 = .ok (.iaload, 1) := by decide +kernel
theorem dX4_delegate_61 : decode cX4_delegate 61 = .ok (.iconst 1, 1) := by decide +kernel
theorem dX4_delegate_62 : decode cX4_delegate 62 = .ok (.isub, 1) := by decide +kernel
theorem dX4_delegate_63 : decode cX4_delegate 63 = .ok (.istore_n 3, 1) := by decide +kernel
theorem dX4_delegate_64 : decode cX4_delegate 64 = .ok (.aload_n 0, 1) := by decide +kernel
theorem dX4_delegate_65 : decode cX4_delegate 65 = .ok (.getfield 107, 3) := by decide +kernel
theorem dX4_delegate_68 : decode cX4_delegate 68 = .ok (.istore 4, 2) := by decide +kernel
theorem dX4_delegate_70 : decode cX4_delegate 70 = .ok (.iload 4, 2) := by decide +kernel
theorem dX4_delegate_72 : decode cX4_delegate 72 = .ok (.sipush 5000, 3) := by decide +kernel
theorem dX4_delegate_75 : decode cX4_delegate 75 = .ok (.if_icmp .gt 25, 3) := by decide +kernel
theorem dX4_delegate_78 : decode cX4_delegate 78 = .ok (.aload_n 0, 1) := by decide +kernel
theorem dX4_delegate_79 : decode cX4_delegate 79 = .ok (.getfield 17, 3) := by decide +kernel
theorem dX4_delegate_82 : decode cX4_delegate 82 = .ok (.sipush 5001, 3) := by decide +kernel
theorem dX4_delegate_85 : decode cX4_delegate 85 = .ok (.iload_n 1, 1) := by decide +kernel
theorem dX4_delegate_86 : decode cX4_delegate 86 = .ok (.imul, 1) := by decide +kernel
theorem dX4_delegate_87 : decode cX4_delegate 87 = .ok (.iload 4, 2) := by decide +kernel
theorem dX4_delegate_89 : decode cX4_delegate 89 = .ok (.iadd, 1) := by decide +kernel
theorem dX4_delegate_90 : decode cX4_delegate 90 = .ok (.iload_n 2, 1) := by decide +kernel
theorem dX4_delegate_91 : decode cX4_delegate 91 = .ok (.iconst 1, 1) := by decide +kernel
theorem dX4_delegate_92 : decode cX4_delegate 92 = .ok (.iadd, 1) := by decide +kernel
theorem dX4_delegate_93 : decode cX4_delegate 93 = .ok (.iastore, 1) := by decide +kernel
theorem dX4_delegate_94 : decode cX4_delegate 94 = .ok (.iinc 4 1, 3) := by decide +kernel
theorem dX4_delegate_97 : decode cX4_delegate 97 = .ok (.goto (-27), 3) := by decide +kernel
theorem dX4_delegate_100 : decode cX4_delegate 100 = .ok (.iload_n 3, 1) := by decide +kernel
theorem dX4_delegate_101 : decode cX4_delegate 101 = .ok (.ireturn, 1) := by decide +kernel
theorem dX4_whoseOn_0 : decode cX4_whoseOn 0 = .ok (.iload_n 1, 1) := by decide +kernel
theorem dX4_whoseOn_1 : decode cX4_whoseOn 1 = .ok (.istore_n 3, 1) := by decide +kernel
theorem dX4_whoseOn_2 : decode cX4_whoseOn 2 = .ok (.iconst 0, 1) := by decide +kernel
theorem dX4_whoseOn_3 : decode cX4_whoseOn 3 = .ok (.istore 4, 2) := by decide +kernel
theorem dX4_whoseOn_5 : decode cX4_whoseOn 5 = .ok (.iload 4, 2) := by decide +kernel
theorem dX4_whoseOn_7 : decode cX4_whoseOn 7 = .ok (.bipush 10, 2) := by decide +kernel
theorem dX4_whoseOn_9 : decode cX4_whoseOn 9 = .ok (.if_icmp .ge 39, 3) := by decide +kernel
theorem dX4_whoseOn_12 : decode cX4_whoseOn 12 = .ok (.aload_n 0, 1) := by decide +kernel
theorem dX4_whoseOn_13 : decode cX4_whoseOn 13 = .ok (.getfield 17, 3) := by decide +kernel
theorem dX4_whoseOn_16 : decode cX4_whoseOn 16 = .ok (.sipush 5001, 3) := by decide +kernel
theorem dX4_whoseOn_19 : decode cX4_whoseOn 19 = .ok (.iload_n 3, 1) := by decide +kernel
theorem dX4_whoseOn_20 : decode cX4_whoseOn 20 = .ok (.imul, 1) := by decide +kernel
theorem dX4_whoseOn_21 : decode cX4_whoseOn 21 = .ok (.iload_n 2, 1) := by decide +kernel
theorem dX4_whoseOn_22 : decode cX4_whoseOn 22 = .ok (.iadd, 1) := by decide +kernel
theorem dX4_whoseOn_23 : decode cX4_whoseOn 23 = .ok (.iaload, 1) := by decide +kernel
theorem dX4_whoseOn_24 : decode cX4_whoseOn 24 = .ok (.ifCond .le 24, 3) := by decide +kernel
theorem dX4_whoseOn_27 : decode cX4_whoseOn 27 = .ok (.aload_n 0, 1) := by decide +kernel
theorem dX4_whoseOn_28 : decode cX4_whoseOn 28 = .ok (.getfield 17, 3) := by decide +kernel
theorem dX4_whoseOn_31 : decode cX4_whoseOn 31 = .ok (.sipush 5001, 3) := by decide +kernel
theorem dX4_whoseOn_34 : decode cX4_whoseOn 34 = .ok (.iload_n 3, 1) := by decide +kernel
theorem dX4_whoseOn_35 : decode cX4_whoseOn 35 = .ok (.imul, 1) := by decide +kernel
theorem dX4_whoseOn_36 : decode cX4_whoseOn 36 = .ok (.iload_n 2, 1) := by decide +kernel
theorem dX4_whoseOn_37 : decode cX4_whoseOn 37 = .ok (.iadd, 1) := by decide +kernel
theorem dX4_whoseOn_38 : decode cX4_whoseOn 38 = .ok (.iaload, 1) := by decide +kernel
theorem dX4_whoseOn_39 : decode cX4_whoseOn 39 = .ok (.iconst 1, 1) := by decide +kernel
theorem dX4_whoseOn_40 : decode cX4_whoseOn 40 = .ok (.isub, 1) := by decide +kernel
theorem dX4_whoseOn_41 : decode cX4_whoseOn 41 = .ok (.istore_n 3, 1) := by decide +kernel
theorem dX4_whoseOn_42 : decode cX4_whoseOn 42 = .ok (.iinc 4 1, 3) := by decide +kernel
theorem dX4_whoseOn_45 : decode cX4_whoseOn 45 = .ok (.goto (-40), 3) := by decide +kernel
theorem dX4_whoseOn_48 : decode cX4_whoseOn 48 = .ok (.iload_n 3, 1) := by decide +kernel
theorem dX4_whoseOn_49 : decode cX4_whoseOn 49 = .ok (.ireturn, 1) := by decide +kernel
set_option maxRecDepth 20000 in
theorem ggX4_whose_X4_isOffice : GoodIn wsX4_whose wsX4_isOffice := goodIn_r _ [6, 7, 8, 9, 5, 10, 25, 26, 27, 28, 29, 30, 31, 32, 33, 34, 35, 36, 37, 38, 39, 40, 41, 42, 43, 44, 45, 46, 47, 48, 49, 50, 51] (by decide +kernel) (by decide +kernel)
set_option maxRecDepth 20000 in
theorem gX4_whose_X4_isOffice : GoodIn wsX4_whose (wsV RX4 103 RX4 yX4_isOffice wsX4_isOffice) := goodIn_app (goodIn_of _ (by decide +kernel)) ggX4_whose_X4_isOffice
set_option maxRecDepth 20000 in
theorem ggX4_whose_X4_asks : GoodIn wsX4_whose wsX4_asks := goodIn_r _ [14, 15, 25, 26, 27, 28, 29, 30, 31, 32, 33, 34, 35, 36, 37, 38, 39, 40, 41, 42, 43, 44, 45, 46, 47, 48, 49, 50, 51] (by decide +kernel) (by decide +kernel)
set_option maxRecDepth 20000 in
theorem gX4_whose_X4_asks : GoodIn wsX4_whose (wsV RX4 92 RX4 yX4_asks wsX4_asks) := goodIn_app (goodIn_of _ (by decide +kernel)) ggX4_whose_X4_asks
set_option maxRecDepth 20000 in
theorem ggX4_whose_X4_in : GoodIn wsX4_whose wsX4_in := goodIn_r _ [10] (by decide +kernel) (by decide +kernel)
set_option maxRecDepth 20000 in
theorem gX4_whose_X4_in : GoodIn wsX4_whose (va_wsS RX4 82 yX4_in wsX4_in) := goodIn_app (goodIn_of _ (by decide +kernel)) ggX4_whose_X4_in
set_option maxRecDepth 20000 in
theorem ggX4_whose_X4_whoseOn : GoodIn wsX4_whose wsX4_whoseOn := goodIn_r _ [19, 20, 25, 26, 27, 28, 29, 30, 31, 32, 33, 34, 35, 36, 37, 38, 39, 40, 41, 42, 43, 44, 45, 46, 47, 48, 49, 50, 51] (by decide +kernel) (by decide +kernel)
set_option maxRecDepth 20000 in
theorem gX4_whose_X4_whoseOn : GoodIn wsX4_whose (wsV RX4 110 RX4 yX4_whoseOn wsX4_whoseOn) := goodIn_app (goodIn_of _ (by decide +kernel)) ggX4_whose_X4_whoseOn
set_option maxRecDepth 20000 in
theorem ggX4_whose_X4_fails : GoodIn wsX4_whose wsX4_fails := goodIn_r _ [24, 15, 25, 26, 27, 28, 29, 30, 31, 32, 33, 34, 35, 36, 37, 38, 39, 40, 41, 42, 43, 44, 45, 46, 47, 48, 49, 50, 51] (by decide +kernel) (by decide +kernel)
set_option maxRecDepth 20000 in
theorem gX4_whose_X4_fails : GoodIn wsX4_whose (wsV RX4 99 RX4 yX4_fails wsX4_fails) := goodIn_app (goodIn_of _ (by decide +kernel)) ggX4_whose_X4_fails
theorem dX4_whose_0 : decode cX4_whose 0 = .ok (.aload_n 0, 1) := by decide +kernel
theorem dX4_whose_1 : decode cX4_whose 1 = .ok (.aload_n 0, 1) := by decide +kernel
theorem dX4_whose_2 : decode cX4_whose 2 = .ok (.iload_n 1, 1) := by decide +kernel
theorem dX4_whose_3 : decode cX4_whose 3 = .ok (.invokevirtual 103, 3) := by decide +kernel
theorem dX4_whose_6 : decode cX4_whose 6 = .ok (.invokevirtual 92, 3) := by decide +kernel
theorem dX4_whose_9 : decode cX4_whose 9 = .ok (.ifCond .ne 5, 3) := by decide +kernel
theorem dX4_whose_12 : decode cX4_whose 12 = .ok (.iconst 0, 1) := by decide +kernel
theorem dX4_whose_13 : decode cX4_whose 13 = .ok (.ireturn, 1) := by decide +kernel
theorem dX4_whose_14 : decode cX4_whose 14 = .ok (.iload_n 2, 1) := by decide +kernel
theorem dX4_whose_15 : decode cX4_whose 15 = .ok (.iconst 0, 1) := by decide +kernel
theorem dX4_whose_16 : decode cX4_whose 16 = .ok (.aload_n 0, 1) := by decide +kernel
theorem dX4_whose_17 : decode cX4_whose 17 = .ok (.getfield 107, 3) := by decide +kernel
theorem dX4_whose_20 : decode cX4_whose 20 = .ok (.invokestatic 82, 3) := by decide +kernel
theorem dX4_whose_23 : decode cX4_whose 23 = .ok (.ifCond .eq 12, 3) := by decide +kernel
theorem dX4_whose_26 : decode cX4_whose 26 = .ok (.aload_n 0, 1) := by decide +kernel
theorem dX4_whose_27 : decode cX4_whose 27 = .ok (.iload_n 1, 1) := by decide +kernel
theorem dX4_whose_28 : decode cX4_whose 28 = .ok (.iload_n 2, 1) := by decide +kernel
theorem dX4_whose_29 : decode cX4_whose 29 = .ok (.invokevirtual 110, 3) := by decide +kernel
theorem dX4_whose_32 : decode cX4_whose 32 = .ok (.goto 8, 3) := by decide +kernel
theorem dX4_whose_35 : decode cX4_whose 35 = .ok (.aload_n 0, 1) := by decide +kernel
theorem dX4_whose_36 : decode cX4_whose 36 = .ok (.iconst 2, 1) := by decide +kernel
theorem dX4_whose_37 : decode cX4_whose 37 = .ok (.invokevirtual 99, 3) := by decide +kernel
theorem dX4_whose_40 : decode cX4_whose 40 = .ok (.ireturn, 1) := by decide +kernel
set_option maxRecDepth 20000 in
theorem ggX4_limit_X4_isKind : GoodIn wsX4_limit wsX4_isKind := goodIn_r _ [6, 7, 8, 5, 9] (by decide +kernel) (by decide +kernel)
set_option maxRecDepth 20000 in
theorem gX4_limit_X4_isKind : GoodIn wsX4_limit (va_wsS RX4 114 yX4_isKind wsX4_isKind) := goodIn_app (goodIn_of _ (by decide +kernel)) ggX4_limit_X4_isKind
set_option maxRecDepth 20000 in
theorem ggX4_limit_X4_asks : GoodIn wsX4_limit wsX4_asks := goodIn_r _ [13, 14, 19, 20, 21, 22, 23, 24, 25, 26, 27, 28, 29, 30, 31, 32, 33, 34, 35, 36, 37, 38, 39, 40, 41, 42, 43, 44, 45] (by decide +kernel) (by decide +kernel)
set_option maxRecDepth 20000 in
theorem gX4_limit_X4_asks : GoodIn wsX4_limit (wsV RX4 92 RX4 yX4_asks wsX4_asks) := goodIn_app (goodIn_of _ (by decide +kernel)) ggX4_limit_X4_asks
set_option maxRecDepth 20000 in
theorem ggX4_limit_X4_in : GoodIn wsX4_limit wsX4_in := goodIn_r _ [9] (by decide +kernel) (by decide +kernel)
set_option maxRecDepth 20000 in
theorem gX4_limit_X4_in : GoodIn wsX4_limit (va_wsS RX4 82 yX4_in wsX4_in) := goodIn_app (goodIn_of _ (by decide +kernel)) ggX4_limit_X4_in
set_option maxRecDepth 20000 in
theorem ggX4_limit_X4_fails : GoodIn wsX4_limit wsX4_fails := goodIn_r _ [18, 14, 19, 20, 21, 22, 23, 24, 25, 26, 27, 28, 29, 30, 31, 32, 33, 34, 35, 36, 37, 38, 39, 40, 41, 42, 43, 44, 45] (by decide +kernel) (by decide +kernel)
set_option maxRecDepth 20000 in
theorem gX4_limit_X4_fails : GoodIn wsX4_limit (wsV RX4 99 RX4 yX4_fails wsX4_fails) := goodIn_app (goodIn_of _ (by decide +kernel)) ggX4_limit_X4_fails
theorem dX4_limit_0 : decode cX4_limit 0 = .ok (.aload_n 0, 1) := by decide +kernel
theorem dX4_limit_1 : decode cX4_limit 1 = .ok (.iload_n 1, 1) := by decide +kernel
theorem dX4_limit_2 : decode cX4_limit 2 = .ok (.invokestatic 114, 3) := by decide +kernel
theorem dX4_limit_5 : decode cX4_limit 5 = .ok (.invokevirtual 92, 3) := by decide +kernel
theorem dX4_limit_8 : decode cX4_limit 8 = .ok (.ifCond .ne 5, 3) := by decide +kernel
theorem dX4_limit_11 : decode cX4_limit 11 = .ok (.iconst 0, 1) := by decide +kernel
theorem dX4_limit_12 : decode cX4_limit 12 = .ok (.ireturn, 1) := by decide +kernel
theorem dX4_limit_13 : decode cX4_limit 13 = .ok (.iload_n 2, 1) := by decide +kernel
theorem dX4_limit_14 : decode cX4_limit 14 = .ok (.iconst 0, 1) := by decide +kernel
theorem dX4_limit_15 : decode cX4_limit 15 = .ok (.bipush 100, 2) := by decide +kernel
theorem dX4_limit_17 : decode cX4_limit 17 = .ok (.invokestatic 82, 3) := by decide +kernel
theorem dX4_limit_20 : decode cX4_limit 20 = .ok (.ifCond .ne 9, 3) := by decide +kernel
theorem dX4_limit_23 : decode cX4_limit 23 = .ok (.aload_n 0, 1) := by decide +kernel
theorem dX4_limit_24 : decode cX4_limit 24 = .ok (.iconst 2, 1) := by decide +kernel
theorem dX4_limit_25 : decode cX4_limit 25 = .ok (.invokevirtual 99, 3) := by decide +kernel
theorem dX4_limit_28 : decode cX4_limit 28 = .ok (.ireturn, 1) := by decide +kernel
theorem dX4_limit_29 : decode cX4_limit 29 = .ok (.aload_n 0, 1) := by decide +kernel
theorem dX4_limit_30 : decode cX4_limit 30 = .ok (.getfield 20, 3) := by decide +kernel
theorem dX4_limit_33 : decode cX4_limit 33 = .ok (.sipush 5001, 3) := by decide +kernel
theorem dX4_limit_36 : decode cX4_limit 36 = .ok (.iload_n 1, 1) := by decide +kernel
theorem dX4_limit_37 : decode cX4_limit 37 = .ok (.imul, 1) := by decide +kernel
theorem dX4_limit_38 : decode cX4_limit 38 = .ok (.aload_n 0, 1) := by decide +kernel
theorem dX4_limit_39 : decode cX4_limit 39 = .ok (.getfield 107, 3) := by decide +kernel
theorem dX4_limit_42 : decode cX4_limit 42 = .ok (.iadd, 1) := by decide +kernel
theorem dX4_limit_43 : decode cX4_limit 43 = .ok (.iaload, 1) := by decide +kernel
theorem dX4_limit_44 : decode cX4_limit 44 = .ok (.istore_n 3, 1) := by decide +kernel
theorem dX4_limit_45 : decode cX4_limit 45 = .ok (.aload_n 0, 1) := by decide +kernel
theorem dX4_limit_46 : decode cX4_limit 46 = .ok (.getfield 107, 3) := by decide +kernel
theorem dX4_limit_49 : decode cX4_limit 49 = .ok (.istore 4, 2) := by decide +kernel
theorem dX4_limit_51 : decode cX4_limit 51 = .ok (.iload 4, 2) := by decide +kernel
theorem dX4_limit_53 : decode cX4_limit 53 = .ok (.sipush 5000, 3) := by decide +kernel
theorem dX4_limit_56 : decode cX4_limit 56 = .ok (.if_icmp .gt 23, 3) := by decide +kernel
theorem dX4_limit_59 : decode cX4_limit 59 = .ok (.aload_n 0, 1) := by decide +kernel
theorem dX4_limit_60 : decode cX4_limit 60 = .ok (.getfield 20, 3) := by decide +kernel
theorem dX4_limit_63 : decode cX4_limit 63 = .ok (.sipush 5001, 3) := by decide +kernel
theorem dX4_limit_66 : decode cX4_limit 66 = .ok (.iload_n 1, 1) := by decide +kernel
theorem dX4_limit_67 : decode cX4_limit 67 = .ok (.imul, 1) := by decide +kernel
theorem dX4_limit_68 : decode cX4_limit 68 = .ok (.iload 4, 2) := by decide +kernel
theorem dX4_limit_70 : decode cX4_limit 70 = .ok (.iadd, 1) := by decide +kernel
theorem dX4_limit_71 : decode cX4_limit 71 = .ok (.iload_n 2, 1) := by decide +kernel
theorem dX4_limit_72 : decode cX4_limit 72 = .ok (.iastore, 1) := by decide +kernel
theorem dX4_limit_73 : decode cX4_limit 73 = .ok (.iinc 4 1, 3) := by decide +kernel
theorem dX4_limit_76 : decode cX4_limit 76 = .ok (.goto (-25), 3) := by decide +kernel
theorem dX4_limit_79 : decode cX4_limit 79 = .ok (.iload_n 3, 1) := by decide +kernel
theorem dX4_limit_80 : decode cX4_limit 80 = .ok (.ireturn, 1) := by decide +kernel
set_option maxRecDepth 20000 in
theorem ggX4_act_X4_isOffice : GoodIn wsX4_act wsX4_isOffice := goodIn_r _ [13, 14, 15, 16, 12, 17, 37, 38, 39, 40, 41, 42, 43, 44, 45, 46, 47, 48, 49, 50, 51, 52, 53, 54, 55, 56, 57, 58, 59, 60, 61, 62, 63] (by decide +kernel) (by decide +kernel)
set_option maxRecDepth 20000 in
theorem gX4_act_X4_isOffice : GoodIn wsX4_act (wsV RX4 103 RX4 yX4_isOffice wsX4_isOffice) := goodIn_app (goodIn_of _ (by decide +kernel)) ggX4_act_X4_isOffice
set_option maxRecDepth 20000 in
theorem ggX4_act_X4_asks : GoodIn wsX4_act wsX4_asks := goodIn_r _ [21, 22, 37, 38, 39, 40, 41, 42, 43, 44, 45, 46, 47, 48, 49, 50, 51, 52, 53, 54, 55, 56, 57, 58, 59, 60, 61, 62, 63] (by decide +kernel) (by decide +kernel)
set_option maxRecDepth 20000 in
theorem gX4_act_X4_asks : GoodIn wsX4_act (wsV RX4 92 RX4 yX4_asks wsX4_asks) := goodIn_app (goodIn_of _ (by decide +kernel)) ggX4_act_X4_asks
set_option maxRecDepth 20000 in
theorem ggX4_act_X4_in : GoodIn wsX4_act wsX4_in := goodIn_r _ [17] (by decide +kernel) (by decide +kernel)
set_option maxRecDepth 20000 in
theorem gX4_act_X4_in : GoodIn wsX4_act (va_wsS RX4 82 yX4_in wsX4_in) := goodIn_app (goodIn_of _ (by decide +kernel)) ggX4_act_X4_in
set_option maxRecDepth 20000 in
theorem ggX4_act_X4_fails : GoodIn wsX4_act wsX4_fails := goodIn_r _ [26, 22, 37, 38, 39, 40, 41, 42, 43, 44, 45, 46, 47, 48, 49, 50, 51, 52, 53, 54, 55, 56, 57, 58, 59, 60, 61, 62, 63] (by decide +kernel) (by decide +kernel)
set_option maxRecDepth 20000 in
theorem gX4_act_X4_fails : GoodIn wsX4_act (wsV RX4 99 RX4 yX4_fails wsX4_fails) := goodIn_app (goodIn_of _ (by decide +kernel)) ggX4_act_X4_fails
set_option maxRecDepth 20000 in
theorem ggX4_act_X4_isTyped : GoodIn wsX4_act wsX4_isTyped := goodIn_r _ [30, 2, 31, 37, 38, 39, 40, 41, 42, 43, 44, 45, 46, 47, 48, 49, 50, 51, 52, 53, 54, 55, 56, 57, 58, 59, 60, 61, 62, 63] (by decide +kernel) (by decide +kernel)
set_option maxRecDepth 20000 in
theorem gX4_act_X4_isTyped : GoodIn wsX4_act (wsV RX4 117 RX4 yX4_isTyped wsX4_isTyped) := goodIn_app (goodIn_of _ (by decide +kernel)) ggX4_act_X4_isTyped
set_option maxRecDepth 20000 in
theorem ggX4_act_X4_whoseOn : GoodIn wsX4_act wsX4_whoseOn := goodIn_r _ [35, 36, 37, 38, 39, 40, 41, 42, 43, 44, 45, 46, 47, 48, 49, 50, 51, 52, 53, 54, 55, 56, 57, 58, 59, 60, 61, 62, 63] (by decide +kernel) (by decide +kernel)
set_option maxRecDepth 20000 in
theorem gX4_act_X4_whoseOn : GoodIn wsX4_act (wsV RX4 110 RX4 yX4_whoseOn wsX4_whoseOn) := goodIn_app (goodIn_of _ (by decide +kernel)) ggX4_act_X4_whoseOn
theorem dX4_act_0 : decode cX4_act 0 = .ok (.aload_n 0, 1) := by decide +kernel
theorem dX4_act_1 : decode cX4_act 1 = .ok (.aload_n 0, 1) := by decide +kernel
theorem dX4_act_2 : decode cX4_act 2 = .ok (.iload_n 1, 1) := by decide +kernel
theorem dX4_act_3 : decode cX4_act 3 = .ok (.invokevirtual 103, 3) := by decide +kernel
theorem dX4_act_6 : decode cX4_act 6 = .ok (.invokevirtual 92, 3) := by decide +kernel
theorem dX4_act_9 : decode cX4_act 9 = .ok (.ifCond .ne 5, 3) := by decide +kernel
theorem dX4_act_12 : decode cX4_act 12 = .ok (.iconst 0, 1) := by decide +kernel
theorem dX4_act_13 : decode cX4_act 13 = .ok (.ireturn, 1) := by decide +kernel
theorem dX4_act_14 : decode cX4_act 14 = .ok (.iload_n 2, 1) := by decide +kernel
theorem dX4_act_15 : decode cX4_act 15 = .ok (.iconst 0, 1) := by decide +kernel
theorem dX4_act_16 : decode cX4_act 16 = .ok (.bipush 100, 2) := by decide +kernel
theorem dX4_act_18 : decode cX4_act 18 = .ok (.invokestatic 82, 3) := by decide +kernel
theorem dX4_act_21 : decode cX4_act 21 = .ok (.ifCond .eq 14, 3) := by decide +kernel
theorem dX4_act_24 : decode cX4_act 24 = .ok (.iload_n 3, 1) := by decide +kernel
theorem dX4_act_25 : decode cX4_act 25 = .ok (.iconst 0, 1) := by decide +kernel
theorem dX4_act_26 : decode cX4_act 26 = .ok (.sipush 1000, 3) := by decide +kernel
theorem dX4_act_29 : decode cX4_act 29 = .ok (.invokestatic 82, 3) := by decide +kernel
theorem dX4_act_32 : decode cX4_act 32 = .ok (.ifCond .ne 9, 3) := by decide +kernel
theorem dX4_act_35 : decode cX4_act 35 = .ok (.aload_n 0, 1) := by decide +kernel
theorem dX4_act_36 : decode cX4_act 36 = .ok (.iconst 2, 1) := by decide +kernel
theorem dX4_act_37 : decode cX4_act 37 = .ok (.invokevirtual 99, 3) := by decide +kernel
theorem dX4_act_40 : decode cX4_act 40 = .ok (.ireturn, 1) := by decide +kernel
theorem dX4_act_41 : decode cX4_act 41 = .ok (.aload_n 0, 1) := by decide +kernel
theorem dX4_act_42 : decode cX4_act 42 = .ok (.getfield 86, 3) := by decide +kernel
theorem dX4_act_45 : decode cX4_act 45 = .ok (.bipush 24, 2) := by decide +kernel
theorem dX4_act_47 : decode cX4_act 47 = .ok (.if_icmp .ne 9, 3) := by decide +kernel
theorem dX4_act_50 : decode cX4_act 50 = .ok (.aload_n 0, 1) := by decide +kernel
theorem dX4_act_51 : decode cX4_act 51 = .ok (.iconst 3, 1) := by decide +kernel
theorem dX4_act_52 : decode cX4_act 52 = .ok (.invokevirtual 99, 3) := by decide +kernel
theorem dX4_act_55 : decode cX4_act 55 = .ok (.ireturn, 1) := by decide +kernel
theorem dX4_act_56 : decode cX4_act 56 = .ok (.iconst (-1), 1) := by decide +kernel
theorem dX4_act_57 : decode cX4_act 57 = .ok (.istore 4, 2) := by decide +kernel
theorem dX4_act_59 : decode cX4_act 59 = .ok (.iconst 0, 1) := by decide +kernel
theorem dX4_act_60 : decode cX4_act 60 = .ok (.istore 5, 2) := by decide +kernel
theorem dX4_act_62 : decode cX4_act 62 = .ok (.iload 5, 2) := by decide +kernel
theorem dX4_act_64 : decode cX4_act 64 = .ok (.iconst 4, 1) := by decide +kernel
theorem dX4_act_65 : decode cX4_act 65 = .ok (.if_icmp .ge 27, 3) := by decide +kernel
theorem dX4_act_68 : decode cX4_act 68 = .ok (.aload_n 0, 1) := by decide +kernel
theorem dX4_act_69 : decode cX4_act 69 = .ok (.iload 5, 2) := by decide +kernel
theorem dX4_act_71 : decode cX4_act 71 = .ok (.invokevirtual 117, 3) := by decide +kernel
theorem dX4_act_74 : decode cX4_act 74 = .ok (.ifCond .eq 8, 3) := by decide +kernel
theorem dX4_act_77 : decode cX4_act 77 = .ok (.iload 5, 2) := by decide +kernel
theorem dX4_act_79 : decode cX4_act 79 = .ok (.goto 5, 3) := by decide +kernel
theorem dX4_act_82 : decode cX4_act 82 = .ok (.iload 4, 2) := by decide +kernel
theorem dX4_act_84 : decode cX4_act 84 = .ok (.istore 4, 2) := by decide +kernel
theorem dX4_act_86 : decode cX4_act 86 = .ok (.iinc 5 1, 3) := by decide +kernel
theorem dX4_act_89 : decode cX4_act 89 = .ok (.goto (-27), 3) := by decide +kernel
theorem dX4_act_92 : decode cX4_act 92 = .ok (.aload_n 0, 1) := by decide +kernel
theorem dX4_act_93 : decode cX4_act 93 = .ok (.iconst 0, 1) := by decide +kernel
theorem dX4_act_94 : decode cX4_act 94 = .ok (.putfield 96, 3) := by decide +kernel
theorem dX4_act_97 : decode cX4_act 97 = .ok (.iload 4, 2) := by decide +kernel
theorem dX4_act_99 : decode cX4_act 99 = .ok (.iconst (-1), 1) := by decide +kernel
theorem dX4_act_100 : decode cX4_act 100 = .ok (.if_icmp .ne 5, 3) := by decide +kernel
theorem dX4_act_103 : decode cX4_act 103 = .ok (.iconst (-1), 1) := by decide +kernel
theorem dX4_act_104 : decode cX4_act 104 = .ok (.ireturn, 1) := by decide +kernel
theorem dX4_act_105 : decode cX4_act 105 = .ok (.aload_n 0, 1) := by decide +kernel
theorem dX4_act_106 : decode cX4_act 106 = .ok (.getfield 23, 3) := by decide +kernel
theorem dX4_act_109 : decode cX4_act 109 = .ok (.aload_n 0, 1) := by decide +kernel
theorem dX4_act_110 : decode cX4_act 110 = .ok (.getfield 86, 3) := by decide +kernel
theorem dX4_act_113 : decode cX4_act 113 = .ok (.aload_n 0, 1) := by decide +kernel
theorem dX4_act_114 : decode cX4_act 114 = .ok (.iload_n 1, 1) := by decide +kernel
theorem dX4_act_115 : decode cX4_act 115 = .ok (.aload_n 0, 1) := by decide +kernel
theorem dX4_act_116 : decode cX4_act 116 = .ok (.getfield 107, 3) := by decide +kernel
theorem dX4_act_119 : decode cX4_act 119 = .ok (.invokevirtual 110, 3) := by decide +kernel
theorem dX4_act_122 : decode cX4_act 122 = .ok (.iastore, 1) := by decide +kernel
theorem dX4_act_123 : decode cX4_act 123 = .ok (.aload_n 0, 1) := by decide +kernel
theorem dX4_act_124 : decode cX4_act 124 = .ok (.getfield 26, 3) := by decide +kernel
theorem dX4_act_127 : decode cX4_act 127 = .ok (.aload_n 0, 1) := by decide +kernel
theorem dX4_act_128 : decode cX4_act 128 = .ok (.getfield 86, 3) := by decide +kernel
theorem dX4_act_131 : decode cX4_act 131 = .ok (.iload 4, 2) := by decide +kernel
theorem dX4_act_133 : decode cX4_act 133 = .ok (.iastore, 1) := by decide +kernel
theorem dX4_act_134 : decode cX4_act 134 = .ok (.aload_n 0, 1) := by decide +kernel
theorem dX4_act_135 : decode cX4_act 135 = .ok (.getfield 29, 3) := by decide +kernel
theorem dX4_act_138 : decode cX4_act 138 = .ok (.aload_n 0, 1) := by decide +kernel
theorem dX4_act_139 : decode cX4_act 139 = .ok (.getfield 86, 3) := by decide +kernel
theorem dX4_act_142 : decode cX4_act 142 = .ok (.aload_n 0, 1) := by decide +kernel
theorem dX4_act_143 : decode cX4_act 143 = .ok (.getfield 107, 3) := by decide +kernel
theorem dX4_act_146 : decode cX4_act 146 = .ok (.iastore, 1) := by decide +kernel
theorem dX4_act_147 : decode cX4_act 147 = .ok (.aload_n 0, 1) := by decide +kernel
theorem dX4_act_148 : decode cX4_act 148 = .ok (.getfield 32, 3) := by decide +kernel
theorem dX4_act_151 : decode cX4_act 151 = .ok (.aload_n 0, 1) := by decide +kernel
theorem dX4_act_152 : decode cX4_act 152 = .ok (.getfield 86, 3) := by decide +kernel
theorem dX4_act_155 : decode cX4_act 155 = .ok (.iload_n 2, 1) := by decide +kernel
theorem dX4_act_156 : decode cX4_act 156 = .ok (.iastore, 1) := by decide +kernel
theorem dX4_act_157 : decode cX4_act 157 = .ok (.aload_n 0, 1) := by decide +kernel
theorem dX4_act_158 : decode cX4_act 158 = .ok (.getfield 35, 3) := by decide +kernel
theorem dX4_act_161 : decode cX4_act 161 = .ok (.aload_n 0, 1) := by decide +kernel
theorem dX4_act_162 : decode cX4_act 162 = .ok (.getfield 86, 3) := by decide +kernel
theorem dX4_act_165 : decode cX4_act 165 = .ok (.iload_n 3, 1) := by decide +kernel
theorem dX4_act_166 : decode cX4_act 166 = .ok (.iastore, 1) := by decide +kernel
theorem dX4_act_167 : decode cX4_act 167 = .ok (.aload_n 0, 1) := by decide +kernel
theorem dX4_act_168 : decode cX4_act 168 = .ok (.dup, 1) := by decide +kernel
theorem dX4_act_169 : decode cX4_act 169 = .ok (.getfield 86, 3) := by decide +kernel
theorem dX4_act_172 : decode cX4_act 172 = .ok (.iconst 1, 1) := by decide +kernel
theorem dX4_act_173 : decode cX4_act 173 = .ok (.iadd, 1) := by decide +kernel
theorem dX4_act_174 : decode cX4_act 174 = .ok (.putfield 86, 3) := by decide +kernel
theorem dX4_act_177 : decode cX4_act 177 = .ok (.aload_n 0, 1) := by decide +kernel
theorem dX4_act_178 : decode cX4_act 178 = .ok (.getfield 86, 3) := by decide +kernel
theorem dX4_act_181 : decode cX4_act 181 = .ok (.iconst 1, 1) := by decide +kernel
theorem dX4_act_182 : decode cX4_act 182 = .ok (.isub, 1) := by decide +kernel
theorem dX4_act_183 : decode cX4_act 183 = .ok (.ireturn, 1) := by decide +kernel
set_option maxRecDepth 20000 in
theorem ggX4_court_X4_isAct : GoodIn wsX4_court wsX4_isAct := goodIn_r _ [6, 7, 8, 9, 5, 10, 16, 17, 18, 19, 20, 21, 22, 23, 24, 25, 26, 27, 28, 29, 30, 31, 32, 33, 34, 35, 36, 37, 38, 39, 40, 41, 42] (by decide +kernel) (by decide +kernel)
set_option maxRecDepth 20000 in
theorem gX4_court_X4_isAct : GoodIn wsX4_court (wsV RX4 120 RX4 yX4_isAct wsX4_isAct) := goodIn_app (goodIn_of _ (by decide +kernel)) ggX4_court_X4_isAct
set_option maxRecDepth 20000 in
theorem ggX4_court_X4_asks : GoodIn wsX4_court wsX4_asks := goodIn_r _ [14, 15, 16, 17, 18, 19, 20, 21, 22, 23, 24, 25, 26, 27, 28, 29, 30, 31, 32, 33, 34, 35, 36, 37, 38, 39, 40, 41, 42] (by decide +kernel) (by decide +kernel)
set_option maxRecDepth 20000 in
theorem gX4_court_X4_asks : GoodIn wsX4_court (wsV RX4 92 RX4 yX4_asks wsX4_asks) := goodIn_app (goodIn_of _ (by decide +kernel)) ggX4_court_X4_asks
theorem dX4_court_0 : decode cX4_court 0 = .ok (.aload_n 0, 1) := by decide +kernel
theorem dX4_court_1 : decode cX4_court 1 = .ok (.aload_n 0, 1) := by decide +kernel
theorem dX4_court_2 : decode cX4_court 2 = .ok (.iload_n 1, 1) := by decide +kernel
theorem dX4_court_3 : decode cX4_court 3 = .ok (.invokevirtual 120, 3) := by decide +kernel
theorem dX4_court_6 : decode cX4_court 6 = .ok (.invokevirtual 92, 3) := by decide +kernel
theorem dX4_court_9 : decode cX4_court 9 = .ok (.ifCond .ne 5, 3) := by decide +kernel
theorem dX4_court_12 : decode cX4_court 12 = .ok (.iconst 0, 1) := by decide +kernel
theorem dX4_court_13 : decode cX4_court 13 = .ok (.ireturn, 1) := by decide +kernel
theorem dX4_court_14 : decode cX4_court 14 = .ok (.aload_n 0, 1) := by decide +kernel
theorem dX4_court_15 : decode cX4_court 15 = .ok (.getfield 38, 3) := by decide +kernel
theorem dX4_court_18 : decode cX4_court 18 = .ok (.iload_n 1, 1) := by decide +kernel
theorem dX4_court_19 : decode cX4_court 19 = .ok (.baload, 1) := by decide +kernel
theorem dX4_court_20 : decode cX4_court 20 = .ok (.istore_n 3, 1) := by decide +kernel
theorem dX4_court_21 : decode cX4_court 21 = .ok (.aload_n 0, 1) := by decide +kernel
theorem dX4_court_22 : decode cX4_court 22 = .ok (.getfield 38, 3) := by decide +kernel
theorem dX4_court_25 : decode cX4_court 25 = .ok (.iload_n 1, 1) := by decide +kernel
theorem dX4_court_26 : decode cX4_court 26 = .ok (.iload_n 2, 1) := by decide +kernel
theorem dX4_court_27 : decode cX4_court 27 = .ok (.bastore, 1) := by decide +kernel
theorem dX4_court_28 : decode cX4_court 28 = .ok (.iload_n 3, 1) := by decide +kernel
theorem dX4_court_29 : decode cX4_court 29 = .ok (.ireturn, 1) := by decide +kernel
set_option maxRecDepth 20000 in
theorem ggX4_waive_X4_isAct : GoodIn wsX4_waive wsX4_isAct := goodIn_r _ [6, 7, 8, 9, 5, 10, 16, 17, 18, 19, 20, 21, 22, 23, 24, 25, 26, 27, 28, 29, 30, 31, 32, 33, 34, 35, 36, 37, 38, 39, 40, 41, 42] (by decide +kernel) (by decide +kernel)
set_option maxRecDepth 20000 in
theorem gX4_waive_X4_isAct : GoodIn wsX4_waive (wsV RX4 120 RX4 yX4_isAct wsX4_isAct) := goodIn_app (goodIn_of _ (by decide +kernel)) ggX4_waive_X4_isAct
set_option maxRecDepth 20000 in
theorem ggX4_waive_X4_asks : GoodIn wsX4_waive wsX4_asks := goodIn_r _ [14, 15, 16, 17, 18, 19, 20, 21, 22, 23, 24, 25, 26, 27, 28, 29, 30, 31, 32, 33, 34, 35, 36, 37, 38, 39, 40, 41, 42] (by decide +kernel) (by decide +kernel)
set_option maxRecDepth 20000 in
theorem gX4_waive_X4_asks : GoodIn wsX4_waive (wsV RX4 92 RX4 yX4_asks wsX4_asks) := goodIn_app (goodIn_of _ (by decide +kernel)) ggX4_waive_X4_asks
theorem dX4_waive_0 : decode cX4_waive 0 = .ok (.aload_n 0, 1) := by decide +kernel
theorem dX4_waive_1 : decode cX4_waive 1 = .ok (.aload_n 0, 1) := by decide +kernel
theorem dX4_waive_2 : decode cX4_waive 2 = .ok (.iload_n 1, 1) := by decide +kernel
theorem dX4_waive_3 : decode cX4_waive 3 = .ok (.invokevirtual 120, 3) := by decide +kernel
theorem dX4_waive_6 : decode cX4_waive 6 = .ok (.invokevirtual 92, 3) := by decide +kernel
theorem dX4_waive_9 : decode cX4_waive 9 = .ok (.ifCond .ne 5, 3) := by decide +kernel
theorem dX4_waive_12 : decode cX4_waive 12 = .ok (.iconst 0, 1) := by decide +kernel
theorem dX4_waive_13 : decode cX4_waive 13 = .ok (.ireturn, 1) := by decide +kernel
theorem dX4_waive_14 : decode cX4_waive 14 = .ok (.aload_n 0, 1) := by decide +kernel
theorem dX4_waive_15 : decode cX4_waive 15 = .ok (.getfield 42, 3) := by decide +kernel
theorem dX4_waive_18 : decode cX4_waive 18 = .ok (.iload_n 1, 1) := by decide +kernel
theorem dX4_waive_19 : decode cX4_waive 19 = .ok (.baload, 1) := by decide +kernel
theorem dX4_waive_20 : decode cX4_waive 20 = .ok (.istore_n 3, 1) := by decide +kernel
theorem dX4_waive_21 : decode cX4_waive 21 = .ok (.aload_n 0, 1) := by decide +kernel
theorem dX4_waive_22 : decode cX4_waive 22 = .ok (.getfield 42, 3) := by decide +kernel
theorem dX4_waive_25 : decode cX4_waive 25 = .ok (.iload_n 1, 1) := by decide +kernel
theorem dX4_waive_26 : decode cX4_waive 26 = .ok (.iload_n 2, 1) := by decide +kernel
theorem dX4_waive_27 : decode cX4_waive 27 = .ok (.bastore, 1) := by decide +kernel
theorem dX4_waive_28 : decode cX4_waive 28 = .ok (.iload_n 3, 1) := by decide +kernel
theorem dX4_waive_29 : decode cX4_waive 29 = .ok (.ireturn, 1) := by decide +kernel
set_option maxRecDepth 20000 in
theorem ggX4_isThere_X4_in : GoodIn wsX4_isThere wsX4_in := goodIn_r _ [4] (by decide +kernel) (by decide +kernel)
set_option maxRecDepth 20000 in
theorem gX4_isThere_X4_in : GoodIn wsX4_isThere (va_wsS RX4 82 yX4_in wsX4_in) := goodIn_app (goodIn_of _ (by decide +kernel)) ggX4_isThere_X4_in
set_option maxRecDepth 20000 in
theorem ggX4_isThere_X4_isAct : GoodIn wsX4_isThere wsX4_isAct := goodIn_r _ [8, 9, 1, 2, 3, 4, 10, 11, 12, 13, 14, 15, 16, 17, 18, 19, 20, 21, 22, 23, 24, 25, 26, 27, 28, 29, 30, 31, 32, 33, 34, 35, 36] (by decide +kernel) (by decide +kernel)
set_option maxRecDepth 20000 in
theorem gX4_isThere_X4_isAct : GoodIn wsX4_isThere (wsV RX4 120 RX4 yX4_isAct wsX4_isAct) := goodIn_app (goodIn_of _ (by decide +kernel)) ggX4_isThere_X4_isAct
theorem dX4_isThere_0 : decode cX4_isThere 0 = .ok (.iload_n 1, 1) := by decide +kernel
theorem dX4_isThere_1 : decode cX4_isThere 1 = .ok (.iconst 0, 1) := by decide +kernel
theorem dX4_isThere_2 : decode cX4_isThere 2 = .ok (.bipush 9, 2) := by decide +kernel
theorem dX4_isThere_4 : decode cX4_isThere 4 = .ok (.invokestatic 82, 3) := by decide +kernel
theorem dX4_isThere_7 : decode cX4_isThere 7 = .ok (.ifCond .eq 15, 3) := by decide +kernel
theorem dX4_isThere_10 : decode cX4_isThere 10 = .ok (.aload_n 0, 1) := by decide +kernel
theorem dX4_isThere_11 : decode cX4_isThere 11 = .ok (.iload_n 2, 1) := by decide +kernel
theorem dX4_isThere_12 : decode cX4_isThere 12 = .ok (.invokevirtual 120, 3) := by decide +kernel
theorem dX4_isThere_15 : decode cX4_isThere 15 = .ok (.ifCond .eq 7, 3) := by decide +kernel
theorem dX4_isThere_18 : decode cX4_isThere 18 = .ok (.iconst 1, 1) := by decide +kernel
theorem dX4_isThere_19 : decode cX4_isThere 19 = .ok (.goto 4, 3) := by decide +kernel
theorem dX4_isThere_22 : decode cX4_isThere 22 = .ok (.iconst 0, 1) := by decide +kernel
theorem dX4_isThere_23 : decode cX4_isThere 23 = .ok (.ireturn, 1) := by decide +kernel
set_option maxRecDepth 20000 in
theorem ggX4_plea_X4_isThere : GoodIn wsX4_plea wsX4_isThere := goodIn_r _ [8, 9, 10, 7, 11, 12, 13, 14, 15, 16, 21, 22, 23, 24, 25, 26, 27, 28, 29, 30, 31, 32, 33, 34, 35, 36, 37, 38, 39, 40, 41, 42, 43, 44, 45, 46, 47] (by decide +kernel) (by decide +kernel)
set_option maxRecDepth 20000 in
theorem gX4_plea_X4_isThere : GoodIn wsX4_plea (wsV RX4 123 RX4 yX4_isThere wsX4_isThere) := goodIn_app (goodIn_of _ (by decide +kernel)) ggX4_plea_X4_isThere
set_option maxRecDepth 20000 in
theorem ggX4_plea_X4_asks : GoodIn wsX4_plea wsX4_asks := goodIn_r _ [20, 2, 21, 22, 23, 24, 25, 26, 27, 28, 29, 30, 31, 32, 33, 34, 35, 36, 37, 38, 39, 40, 41, 42, 43, 44, 45, 46, 47] (by decide +kernel) (by decide +kernel)
set_option maxRecDepth 20000 in
theorem gX4_plea_X4_asks : GoodIn wsX4_plea (wsV RX4 92 RX4 yX4_asks wsX4_asks) := goodIn_app (goodIn_of _ (by decide +kernel)) ggX4_plea_X4_asks
theorem dX4_plea_0 : decode cX4_plea 0 = .ok (.aload_n 0, 1) := by decide +kernel
theorem dX4_plea_1 : decode cX4_plea 1 = .ok (.aload_n 0, 1) := by decide +kernel
theorem dX4_plea_2 : decode cX4_plea 2 = .ok (.iload_n 1, 1) := by decide +kernel
theorem dX4_plea_3 : decode cX4_plea 3 = .ok (.iload_n 2, 1) := by decide +kernel
theorem dX4_plea_4 : decode cX4_plea 4 = .ok (.invokevirtual 123, 3) := by decide +kernel
theorem dX4_plea_7 : decode cX4_plea 7 = .ok (.invokevirtual 92, 3) := by decide +kernel
theorem dX4_plea_10 : decode cX4_plea 10 = .ok (.ifCond .ne 4, 3) := by decide +kernel
theorem dX4_plea_13 : decode cX4_plea 13 = .ok (.return_, 1) := by decide +kernel
theorem dX4_plea_14 : decode cX4_plea 14 = .ok (.aload_n 0, 1) := by decide +kernel
theorem dX4_plea_15 : decode cX4_plea 15 = .ok (.getfield 48, 3) := by decide +kernel
theorem dX4_plea_18 : decode cX4_plea 18 = .ok (.bipush 10, 2) := by decide +kernel
theorem dX4_plea_20 : decode cX4_plea 20 = .ok (.iload_n 2, 1) := by decide +kernel
theorem dX4_plea_21 : decode cX4_plea 21 = .ok (.imul, 1) := by decide +kernel
theorem dX4_plea_22 : decode cX4_plea 22 = .ok (.iload_n 1, 1) := by decide +kernel
theorem dX4_plea_23 : decode cX4_plea 23 = .ok (.iadd, 1) := by decide +kernel
theorem dX4_plea_24 : decode cX4_plea 24 = .ok (.iaload, 1) := by decide +kernel
theorem dX4_plea_25 : decode cX4_plea 25 = .ok (.iconst (-1), 1) := by decide +kernel
theorem dX4_plea_26 : decode cX4_plea 26 = .ok (.if_icmp .eq 9, 3) := by decide +kernel
theorem dX4_plea_29 : decode cX4_plea 29 = .ok (.aload_n 0, 1) := by decide +kernel
theorem dX4_plea_30 : decode cX4_plea 30 = .ok (.iconst 2, 1) := by decide +kernel
theorem dX4_plea_31 : decode cX4_plea 31 = .ok (.putfield 75, 3) := by decide +kernel
theorem dX4_plea_34 : decode cX4_plea 34 = .ok (.return_, 1) := by decide +kernel
theorem dX4_plea_35 : decode cX4_plea 35 = .ok (.aload_n 0, 1) := by decide +kernel
theorem dX4_plea_36 : decode cX4_plea 36 = .ok (.getfield 48, 3) := by decide +kernel
theorem dX4_plea_39 : decode cX4_plea 39 = .ok (.bipush 10, 2) := by decide +kernel
theorem dX4_plea_41 : decode cX4_plea 41 = .ok (.iload_n 2, 1) := by decide +kernel
theorem dX4_plea_42 : decode cX4_plea 42 = .ok (.imul, 1) := by decide +kernel
theorem dX4_plea_43 : decode cX4_plea 43 = .ok (.iload_n 1, 1) := by decide +kernel
theorem dX4_plea_44 : decode cX4_plea 44 = .ok (.iadd, 1) := by decide +kernel
theorem dX4_plea_45 : decode cX4_plea 45 = .ok (.aload_n 0, 1) := by decide +kernel
theorem dX4_plea_46 : decode cX4_plea 46 = .ok (.getfield 107, 3) := by decide +kernel
theorem dX4_plea_49 : decode cX4_plea 49 = .ok (.iastore, 1) := by decide +kernel
theorem dX4_plea_50 : decode cX4_plea 50 = .ok (.return_, 1) := by decide +kernel
theorem dX4_barOf_0 : decode cX4_barOf 0 = .ok (.aload_n 0, 1) := by decide +kernel
theorem dX4_barOf_1 : decode cX4_barOf 1 = .ok (.getfield 48, 3) := by decide +kernel
theorem dX4_barOf_4 : decode cX4_barOf 4 = .ok (.bipush 10, 2) := by decide +kernel
theorem dX4_barOf_6 : decode cX4_barOf 6 = .ok (.iload_n 2, 1) := by decide +kernel
theorem dX4_barOf_7 : decode cX4_barOf 7 = .ok (.imul, 1) := by decide +kernel
theorem dX4_barOf_8 : decode cX4_barOf 8 = .ok (.iload_n 1, 1) := by decide +kernel
theorem dX4_barOf_9 : decode cX4_barOf 9 = .ok (.iadd, 1) := by decide +kernel
theorem dX4_barOf_10 : decode cX4_barOf 10 = .ok (.iaload, 1) := by decide +kernel
theorem dX4_barOf_11 : decode cX4_barOf 11 = .ok (.istore_n 3, 1) := by decide +kernel
theorem dX4_barOf_12 : decode cX4_barOf 12 = .ok (.iload_n 3, 1) := by decide +kernel
theorem dX4_barOf_13 : decode cX4_barOf 13 = .ok (.iconst (-1), 1) := by decide +kernel
theorem dX4_barOf_14 : decode cX4_barOf 14 = .ok (.if_icmp .eq 14, 3) := by decide +kernel
theorem dX4_barOf_17 : decode cX4_barOf 17 = .ok (.aload_n 0, 1) := by decide +kernel
theorem dX4_barOf_18 : decode cX4_barOf 18 = .ok (.getfield 107, 3) := by decide +kernel
theorem dX4_barOf_21 : decode cX4_barOf 21 = .ok (.iload_n 3, 1) := by decide +kernel
theorem dX4_barOf_22 : decode cX4_barOf 22 = .ok (.isub, 1) := by decide +kernel
theorem dX4_barOf_23 : decode cX4_barOf 23 = .ok (.bipush 10, 2) := by decide +kernel
theorem dX4_barOf_25 : decode cX4_barOf 25 = .ok (.if_icmp .ge 5, 3) := by decide +kernel
theorem dX4_barOf_28 : decode cX4_barOf 28 = .ok (.iconst 1, 1) := by decide +kernel
theorem dX4_barOf_29 : decode cX4_barOf 29 = .ok (.ireturn, 1) := by decide +kernel
theorem dX4_barOf_30 : decode cX4_barOf 30 = .ok (.aload_n 0, 1) := by decide +kernel
theorem dX4_barOf_31 : decode cX4_barOf 31 = .ok (.getfield 38, 3) := by decide +kernel
theorem dX4_barOf_34 : decode cX4_barOf 34 = .ok (.iload_n 2, 1) := by decide +kernel
theorem dX4_barOf_35 : decode cX4_barOf 35 = .ok (.baload, 1) := by decide +kernel
theorem dX4_barOf_36 : decode cX4_barOf 36 = .ok (.ifCond .eq 7, 3) := by decide +kernel
theorem dX4_barOf_39 : decode cX4_barOf 39 = .ok (.iconst 2, 1) := by decide +kernel
theorem dX4_barOf_40 : decode cX4_barOf 40 = .ok (.goto 34, 3) := by decide +kernel
theorem dX4_barOf_43 : decode cX4_barOf 43 = .ok (.aload_n 0, 1) := by decide +kernel
theorem dX4_barOf_44 : decode cX4_barOf 44 = .ok (.getfield 107, 3) := by decide +kernel
theorem dX4_barOf_47 : decode cX4_barOf 47 = .ok (.aload_n 0, 1) := by decide +kernel
theorem dX4_barOf_48 : decode cX4_barOf 48 = .ok (.getfield 29, 3) := by decide +kernel
theorem dX4_barOf_51 : decode cX4_barOf 51 = .ok (.iload_n 2, 1) := by decide +kernel
theorem dX4_barOf_52 : decode cX4_barOf 52 = .ok (.iaload, 1) := by decide +kernel
theorem dX4_barOf_53 : decode cX4_barOf 53 = .ok (.isub, 1) := by decide +kernel
theorem dX4_barOf_54 : decode cX4_barOf 54 = .ok (.sipush 365, 3) := by decide +kernel
theorem dX4_barOf_57 : decode cX4_barOf 57 = .ok (.if_icmp .le 16, 3) := by decide +kernel
theorem dX4_barOf_60 : decode cX4_barOf 60 = .ok (.aload_n 0, 1) := by decide +kernel
theorem dX4_barOf_61 : decode cX4_barOf 61 = .ok (.getfield 42, 3) := by decide +kernel
theorem dX4_barOf_64 : decode cX4_barOf 64 = .ok (.iload_n 2, 1) := by decide +kernel
theorem dX4_barOf_65 : decode cX4_barOf 65 = .ok (.baload, 1) := by decide +kernel
theorem dX4_barOf_66 : decode cX4_barOf 66 = .ok (.ifCond .ne 7, 3) := by decide +kernel
theorem dX4_barOf_69 : decode cX4_barOf 69 = .ok (.iconst 3, 1) := by decide +kernel
theorem dX4_barOf_70 : decode cX4_barOf 70 = .ok (.goto 4, 3) := by decide +kernel
theorem dX4_barOf_73 : decode cX4_barOf 73 = .ok (.iconst 0, 1) := by decide +kernel
theorem dX4_barOf_74 : decode cX4_barOf 74 = .ok (.ireturn, 1) := by decide +kernel
set_option maxRecDepth 20000 in
theorem ggX4_bar_X4_isThere : GoodIn wsX4_bar wsX4_isThere := goodIn_r _ [5, 6, 7, 4, 8, 9, 10, 11, 12, 13, 28, 29, 30, 31, 32, 33, 34, 35, 36, 37, 38, 39, 40, 41, 42, 43, 44, 45, 46, 47, 48, 49, 50, 51, 52, 53, 54] (by decide +kernel) (by decide +kernel)
set_option maxRecDepth 20000 in
theorem gX4_bar_X4_isThere : GoodIn wsX4_bar (wsV RX4 123 RX4 yX4_isThere wsX4_isThere) := goodIn_app (goodIn_of _ (by decide +kernel)) ggX4_bar_X4_isThere
set_option maxRecDepth 20000 in
theorem ggX4_bar_X4_asks : GoodIn wsX4_bar wsX4_asks := goodIn_r _ [17, 18, 28, 29, 30, 31, 32, 33, 34, 35, 36, 37, 38, 39, 40, 41, 42, 43, 44, 45, 46, 47, 48, 49, 50, 51, 52, 53, 54] (by decide +kernel) (by decide +kernel)
set_option maxRecDepth 20000 in
theorem gX4_bar_X4_asks : GoodIn wsX4_bar (wsV RX4 92 RX4 yX4_asks wsX4_asks) := goodIn_app (goodIn_of _ (by decide +kernel)) ggX4_bar_X4_asks
set_option maxRecDepth 20000 in
theorem ggX4_bar_X4_barOf : GoodIn wsX4_bar wsX4_barOf := goodIn_r _ [22, 23, 24, 25, 26, 27, 28, 29, 30, 31, 32, 33, 34, 35, 36, 37, 38, 39, 40, 41, 42, 43, 44, 45, 46, 47, 48, 49, 50, 51, 52, 53, 54] (by decide +kernel) (by decide +kernel)
set_option maxRecDepth 20000 in
theorem gX4_bar_X4_barOf : GoodIn wsX4_bar (wsV RX4 127 RX4 yX4_barOf wsX4_barOf) := goodIn_app (goodIn_of _ (by decide +kernel)) ggX4_bar_X4_barOf
theorem dX4_bar_0 : decode cX4_bar 0 = .ok (.aload_n 0, 1) := by decide +kernel
theorem dX4_bar_1 : decode cX4_bar 1 = .ok (.aload_n 0, 1) := by decide +kernel
theorem dX4_bar_2 : decode cX4_bar 2 = .ok (.iload_n 1, 1) := by decide +kernel
theorem dX4_bar_3 : decode cX4_bar 3 = .ok (.iload_n 2, 1) := by decide +kernel
theorem dX4_bar_4 : decode cX4_bar 4 = .ok (.invokevirtual 123, 3) := by decide +kernel
theorem dX4_bar_7 : decode cX4_bar 7 = .ok (.invokevirtual 92, 3) := by decide +kernel
theorem dX4_bar_10 : decode cX4_bar 10 = .ok (.ifCond .eq 12, 3) := by decide +kernel
theorem dX4_bar_13 : decode cX4_bar 13 = .ok (.aload_n 0, 1) := by decide +kernel
theorem dX4_bar_14 : decode cX4_bar 14 = .ok (.iload_n 1, 1) := by decide +kernel
theorem dX4_bar_15 : decode cX4_bar 15 = .ok (.iload_n 2, 1) := by decide +kernel
theorem dX4_bar_16 : decode cX4_bar 16 = .ok (.invokevirtual 127, 3) := by decide +kernel
theorem dX4_bar_19 : decode cX4_bar 19 = .ok (.goto 4, 3) := by decide +kernel
theorem dX4_bar_22 : decode cX4_bar 22 = .ok (.iconst 0, 1) := by decide +kernel
theorem dX4_bar_23 : decode cX4_bar 23 = .ok (.ireturn, 1) := by decide +kernel
theorem dX4_complaintOf_0 : decode cX4_complaintOf 0 = .ok (.iconst (-1), 1) := by decide +kernel
theorem dX4_complaintOf_1 : decode cX4_complaintOf 1 = .ok (.istore_n 2, 1) := by decide +kernel
theorem dX4_complaintOf_2 : decode cX4_complaintOf 2 = .ok (.iconst 0, 1) := by decide +kernel
theorem dX4_complaintOf_3 : decode cX4_complaintOf 3 = .ok (.istore_n 3, 1) := by decide +kernel
theorem dX4_complaintOf_4 : decode cX4_complaintOf 4 = .ok (.iload_n 3, 1) := by decide +kernel
theorem dX4_complaintOf_5 : decode cX4_complaintOf 5 = .ok (.aload_n 0, 1) := by decide +kernel
theorem dX4_complaintOf_6 : decode cX4_complaintOf 6 = .ok (.getfield 89, 3) := by decide +kernel
theorem dX4_complaintOf_9 : decode cX4_complaintOf 9 = .ok (.if_icmp .ge 35, 3) := by decide +kernel
theorem dX4_complaintOf_12 : decode cX4_complaintOf 12 = .ok (.aload_n 0, 1) := by decide +kernel
theorem dX4_complaintOf_13 : decode cX4_complaintOf 13 = .ok (.getfield 51, 3) := by decide +kernel
theorem dX4_complaintOf_16 : decode cX4_complaintOf 16 = .ok (.iload_n 3, 1) := by decide +kernel
theorem dX4_complaintOf_17 : decode cX4_complaintOf 17 = .ok (.iaload, 1) := by decide +kernel
theorem dX4_complaintOf_18 : decode cX4_complaintOf 18 = .ok (.iload_n 1, 1) := by decide +kernel
theorem dX4_complaintOf_19 : decode cX4_complaintOf 19 = .ok (.if_icmp .ne 17, 3) := by decide +kernel
theorem dX4_complaintOf_22 : decode cX4_complaintOf 22 = .ok (.aload_n 0, 1) := by decide +kernel
theorem dX4_complaintOf_23 : decode cX4_complaintOf 23 = .ok (.getfield 54, 3) := by decide +kernel
theorem dX4_complaintOf_26 : decode cX4_complaintOf 26 = .ok (.iload_n 3, 1) := by decide +kernel
theorem dX4_complaintOf_27 : decode cX4_complaintOf 27 = .ok (.iaload, 1) := by decide +kernel
theorem dX4_complaintOf_28 : decode cX4_complaintOf 28 = .ok (.iconst 2, 1) := by decide +kernel
theorem dX4_complaintOf_29 : decode cX4_complaintOf 29 = .ok (.if_icmp .eq 7, 3) := by decide +kernel
theorem dX4_complaintOf_32 : decode cX4_complaintOf 32 = .ok (.iload_n 3, 1) := by decide +kernel
theorem dX4_complaintOf_33 : decode cX4_complaintOf 33 = .ok (.goto 4, 3) := by decide +kernel
theorem dX4_complaintOf_36 : decode cX4_complaintOf 36 = .ok (.iload_n 2, 1) := by decide +kernel
theorem dX4_complaintOf_37 : decode cX4_complaintOf 37 = .ok (.istore_n 2, 1) := by decide +kernel
theorem dX4_complaintOf_38 : decode cX4_complaintOf 38 = .ok (.iinc 3 1, 3) := by decide +kernel
theorem dX4_complaintOf_41 : decode cX4_complaintOf 41 = .ok (.goto (-37), 3) := by decide +kernel
theorem dX4_complaintOf_44 : decode cX4_complaintOf 44 = .ok (.iload_n 2, 1) := by decide +kernel
theorem dX4_complaintOf_45 : decode cX4_complaintOf 45 = .ok (.ireturn, 1) := by decide +kernel
set_option maxRecDepth 20000 in
theorem ggX4_complain_X4_isThere : GoodIn wsX4_complain wsX4_isThere := goodIn_r _ [12, 13, 14, 11, 15, 16, 17, 18, 19, 20, 43, 44, 45, 46, 47, 48, 49, 50, 51, 52, 53, 54, 55, 56, 57, 58, 59, 60, 61, 62, 63, 64, 65, 66, 67, 68, 69] (by decide +kernel) (by decide +kernel)
set_option maxRecDepth 20000 in
theorem gX4_complain_X4_isThere : GoodIn wsX4_complain (wsV RX4 123 RX4 yX4_isThere wsX4_isThere) := goodIn_app (goodIn_of _ (by decide +kernel)) ggX4_complain_X4_isThere
set_option maxRecDepth 20000 in
theorem ggX4_complain_X4_asks : GoodIn wsX4_complain wsX4_asks := goodIn_r _ [24, 25, 43, 44, 45, 46, 47, 48, 49, 50, 51, 52, 53, 54, 55, 56, 57, 58, 59, 60, 61, 62, 63, 64, 65, 66, 67, 68, 69] (by decide +kernel) (by decide +kernel)
set_option maxRecDepth 20000 in
theorem gX4_complain_X4_asks : GoodIn wsX4_complain (wsV RX4 92 RX4 yX4_asks wsX4_asks) := goodIn_app (goodIn_of _ (by decide +kernel)) ggX4_complain_X4_asks
set_option maxRecDepth 20000 in
theorem ggX4_complain_X4_complaintOf : GoodIn wsX4_complain wsX4_complaintOf := goodIn_r _ [29, 1, 2, 3, 43, 44, 45, 46, 47, 48, 49, 50, 51, 52, 53, 54, 55, 56, 57, 58, 59, 60, 61, 62, 63, 64, 65, 66, 67, 68, 69] (by decide +kernel) (by decide +kernel)
set_option maxRecDepth 20000 in
theorem gX4_complain_X4_complaintOf : GoodIn wsX4_complain (wsV RX4 130 RX4 yX4_complaintOf wsX4_complaintOf) := goodIn_app (goodIn_of _ (by decide +kernel)) ggX4_complain_X4_complaintOf
set_option maxRecDepth 20000 in
theorem ggX4_complain_X4_barOf : GoodIn wsX4_complain wsX4_barOf := goodIn_r _ [33, 34, 35, 36, 37, 38, 43, 44, 45, 46, 47, 48, 49, 50, 51, 52, 53, 54, 55, 56, 57, 58, 59, 60, 61, 62, 63, 64, 65, 66, 67, 68, 69] (by decide +kernel) (by decide +kernel)
set_option maxRecDepth 20000 in
theorem gX4_complain_X4_barOf : GoodIn wsX4_complain (wsV RX4 127 RX4 yX4_barOf wsX4_barOf) := goodIn_app (goodIn_of _ (by decide +kernel)) ggX4_complain_X4_barOf
set_option maxRecDepth 20000 in
theorem ggX4_complain_X4_fails : GoodIn wsX4_complain wsX4_fails := goodIn_r _ [42, 25, 43, 44, 45, 46, 47, 48, 49, 50, 51, 52, 53, 54, 55, 56, 57, 58, 59, 60, 61, 62, 63, 64, 65, 66, 67, 68, 69] (by decide +kernel) (by decide +kernel)
set_option maxRecDepth 20000 in
theorem gX4_complain_X4_fails : GoodIn wsX4_complain (wsV RX4 99 RX4 yX4_fails wsX4_fails) := goodIn_app (goodIn_of _ (by decide +kernel)) ggX4_complain_X4_fails
theorem dX4_complain_0 : decode cX4_complain 0 = .ok (.aload_n 0, 1) := by decide +kernel
theorem dX4_complain_1 : decode cX4_complain 1 = .ok (.aload_n 0, 1) := by decide +kernel
theorem dX4_complain_2 : decode cX4_complain 2 = .ok (.iload_n 1, 1) := by decide +kernel
theorem dX4_complain_3 : decode cX4_complain 3 = .ok (.iload_n 2, 1) := by decide +kernel
theorem dX4_complain_4 : decode cX4_complain 4 = .ok (.invokevirtual 123, 3) := by decide +kernel
theorem dX4_complain_7 : decode cX4_complain 7 = .ok (.invokevirtual 92, 3) := by decide +kernel
theorem dX4_complain_10 : decode cX4_complain 10 = .ok (.ifCond .ne 5, 3) := by decide +kernel
theorem dX4_complain_13 : decode cX4_complain 13 = .ok (.iconst 0, 1) := by decide +kernel
theorem dX4_complain_14 : decode cX4_complain 14 = .ok (.ireturn, 1) := by decide +kernel
theorem dX4_complain_15 : decode cX4_complain 15 = .ok (.aload_n 0, 1) := by decide +kernel
theorem dX4_complain_16 : decode cX4_complain 16 = .ok (.iload_n 2, 1) := by decide +kernel
theorem dX4_complain_17 : decode cX4_complain 17 = .ok (.invokevirtual 130, 3) := by decide +kernel
theorem dX4_complain_20 : decode cX4_complain 20 = .ok (.istore_n 3, 1) := by decide +kernel
theorem dX4_complain_21 : decode cX4_complain 21 = .ok (.aload_n 0, 1) := by decide +kernel
theorem dX4_complain_22 : decode cX4_complain 22 = .ok (.iload_n 1, 1) := by decide +kernel
theorem dX4_complain_23 : decode cX4_complain 23 = .ok (.iload_n 2, 1) := by decide +kernel
theorem dX4_complain_24 : decode cX4_complain 24 = .ok (.invokevirtual 127, 3) := by decide +kernel
theorem dX4_complain_27 : decode cX4_complain 27 = .ok (.ifCond .gt 17, 3) := by decide +kernel
theorem dX4_complain_30 : decode cX4_complain 30 = .ok (.iload_n 3, 1) := by decide +kernel
theorem dX4_complain_31 : decode cX4_complain 31 = .ok (.iconst (-1), 1) := by decide +kernel
theorem dX4_complain_32 : decode cX4_complain 32 = .ok (.if_icmp .ne 18, 3) := by decide +kernel
theorem dX4_complain_35 : decode cX4_complain 35 = .ok (.aload_n 0, 1) := by decide +kernel
theorem dX4_complain_36 : decode cX4_complain 36 = .ok (.getfield 89, 3) := by decide +kernel
theorem dX4_complain_39 : decode cX4_complain 39 = .ok (.bipush 16, 2) := by decide +kernel
theorem dX4_complain_41 : decode cX4_complain 41 = .ok (.if_icmp .ne 9, 3) := by decide +kernel
theorem dX4_complain_44 : decode cX4_complain 44 = .ok (.aload_n 0, 1) := by decide +kernel
theorem dX4_complain_45 : decode cX4_complain 45 = .ok (.iconst 2, 1) := by decide +kernel
theorem dX4_complain_46 : decode cX4_complain 46 = .ok (.invokevirtual 99, 3) := by decide +kernel
theorem dX4_complain_49 : decode cX4_complain 49 = .ok (.ireturn, 1) := by decide +kernel
theorem dX4_complain_50 : decode cX4_complain 50 = .ok (.iload_n 3, 1) := by decide +kernel
theorem dX4_complain_51 : decode cX4_complain 51 = .ok (.iconst (-1), 1) := by decide +kernel
theorem dX4_complain_52 : decode cX4_complain 52 = .ok (.if_icmp .ne 54, 3) := by decide +kernel
theorem dX4_complain_55 : decode cX4_complain 55 = .ok (.aload_n 0, 1) := by decide +kernel
theorem dX4_complain_56 : decode cX4_complain 56 = .ok (.getfield 89, 3) := by decide +kernel
theorem dX4_complain_59 : decode cX4_complain 59 = .ok (.istore_n 3, 1) := by decide +kernel
theorem dX4_complain_60 : decode cX4_complain 60 = .ok (.aload_n 0, 1) := by decide +kernel
theorem dX4_complain_61 : decode cX4_complain 61 = .ok (.getfield 51, 3) := by decide +kernel
theorem dX4_complain_64 : decode cX4_complain 64 = .ok (.iload_n 3, 1) := by decide +kernel
theorem dX4_complain_65 : decode cX4_complain 65 = .ok (.iload_n 2, 1) := by decide +kernel
theorem dX4_complain_66 : decode cX4_complain 66 = .ok (.iastore, 1) := by decide +kernel
theorem dX4_complain_67 : decode cX4_complain 67 = .ok (.aload_n 0, 1) := by decide +kernel
theorem dX4_complain_68 : decode cX4_complain 68 = .ok (.getfield 54, 3) := by decide +kernel
theorem dX4_complain_71 : decode cX4_complain 71 = .ok (.iload_n 3, 1) := by decide +kernel
theorem dX4_complain_72 : decode cX4_complain 72 = .ok (.iconst 0, 1) := by decide +kernel
theorem dX4_complain_73 : decode cX4_complain 73 = .ok (.iastore, 1) := by decide +kernel
theorem dX4_complain_74 : decode cX4_complain 74 = .ok (.aload_n 0, 1) := by decide +kernel
theorem dX4_complain_75 : decode cX4_complain 75 = .ok (.getfield 57, 3) := by decide +kernel
theorem dX4_complain_78 : decode cX4_complain 78 = .ok (.iload_n 3, 1) := by decide +kernel
theorem dX4_complain_79 : decode cX4_complain 79 = .ok (.bipush 60, 2) := by decide +kernel
theorem dX4_complain_81 : decode cX4_complain 81 = .ok (.iastore, 1) := by decide +kernel
theorem dX4_complain_82 : decode cX4_complain 82 = .ok (.aload_n 0, 1) := by decide +kernel
theorem dX4_complain_83 : decode cX4_complain 83 = .ok (.getfield 63, 3) := by decide +kernel
theorem dX4_complain_86 : decode cX4_complain 86 = .ok (.iload_n 3, 1) := by decide +kernel
theorem dX4_complain_87 : decode cX4_complain 87 = .ok (.iconst (-1), 1) := by decide +kernel
theorem dX4_complain_88 : decode cX4_complain 88 = .ok (.iastore, 1) := by decide +kernel
theorem dX4_complain_89 : decode cX4_complain 89 = .ok (.aload_n 0, 1) := by decide +kernel
theorem dX4_complain_90 : decode cX4_complain 90 = .ok (.getfield 72, 3) := by decide +kernel
theorem dX4_complain_93 : decode cX4_complain 93 = .ok (.iload_n 3, 1) := by decide +kernel
theorem dX4_complain_94 : decode cX4_complain 94 = .ok (.iconst (-1), 1) := by decide +kernel
theorem dX4_complain_95 : decode cX4_complain 95 = .ok (.iastore, 1) := by decide +kernel
theorem dX4_complain_96 : decode cX4_complain 96 = .ok (.aload_n 0, 1) := by decide +kernel
theorem dX4_complain_97 : decode cX4_complain 97 = .ok (.dup, 1) := by decide +kernel
theorem dX4_complain_98 : decode cX4_complain 98 = .ok (.getfield 89, 3) := by decide +kernel
theorem dX4_complain_101 : decode cX4_complain 101 = .ok (.iconst 1, 1) := by decide +kernel
theorem dX4_complain_102 : decode cX4_complain 102 = .ok (.iadd, 1) := by decide +kernel
theorem dX4_complain_103 : decode cX4_complain 103 = .ok (.putfield 89, 3) := by decide +kernel
theorem dX4_complain_106 : decode cX4_complain 106 = .ok (.aload_n 0, 1) := by decide +kernel
theorem dX4_complain_107 : decode cX4_complain 107 = .ok (.getfield 60, 3) := by decide +kernel
theorem dX4_complain_110 : decode cX4_complain 110 = .ok (.iload_n 3, 1) := by decide +kernel
theorem dX4_complain_111 : decode cX4_complain 111 = .ok (.dup2, 1) := by decide +kernel
theorem dX4_complain_112 : decode cX4_complain 112 = .ok (.iaload, 1) := by decide +kernel
theorem dX4_complain_113 : decode cX4_complain 113 = .ok (.iconst 1, 1) := by decide +kernel
theorem dX4_complain_114 : decode cX4_complain 114 = .ok (.iload_n 1, 1) := by decide +kernel
theorem dX4_complain_115 : decode cX4_complain 115 = .ok (.ishl, 1) := by decide +kernel
theorem dX4_complain_116 : decode cX4_complain 116 = .ok (.ior, 1) := by decide +kernel
theorem dX4_complain_117 : decode cX4_complain 117 = .ok (.iastore, 1) := by decide +kernel
theorem dX4_complain_118 : decode cX4_complain 118 = .ok (.iload_n 3, 1) := by decide +kernel
theorem dX4_complain_119 : decode cX4_complain 119 = .ok (.ireturn, 1) := by decide +kernel
theorem dX4_isOwed_0 : decode cX4_isOwed 0 = .ok (.aload_n 0, 1) := by decide +kernel
theorem dX4_isOwed_1 : decode cX4_isOwed 1 = .ok (.getfield 63, 3) := by decide +kernel
theorem dX4_isOwed_4 : decode cX4_isOwed 4 = .ok (.iload_n 1, 1) := by decide +kernel
theorem dX4_isOwed_5 : decode cX4_isOwed 5 = .ok (.iaload, 1) := by decide +kernel
theorem dX4_isOwed_6 : decode cX4_isOwed 6 = .ok (.iconst (-1), 1) := by decide +kernel
theorem dX4_isOwed_7 : decode cX4_isOwed 7 = .ok (.if_icmp .eq 16, 3) := by decide +kernel
theorem dX4_isOwed_10 : decode cX4_isOwed 10 = .ok (.aload_n 0, 1) := by decide +kernel
theorem dX4_isOwed_11 : decode cX4_isOwed 11 = .ok (.getfield 66, 3) := by decide +kernel
theorem dX4_isOwed_14 : decode cX4_isOwed 14 = .ok (.iload_n 1, 1) := by decide +kernel
theorem dX4_isOwed_15 : decode cX4_isOwed 15 = .ok (.baload, 1) := by decide +kernel
theorem dX4_isOwed_16 : decode cX4_isOwed 16 = .ok (.ifCond .ne 7, 3) := by decide +kernel
theorem dX4_isOwed_19 : decode cX4_isOwed 19 = .ok (.iconst 1, 1) := by decide +kernel
theorem dX4_isOwed_20 : decode cX4_isOwed 20 = .ok (.goto 4, 3) := by decide +kernel
theorem dX4_isOwed_23 : decode cX4_isOwed 23 = .ok (.iconst 0, 1) := by decide +kernel
theorem dX4_isOwed_24 : decode cX4_isOwed 24 = .ok (.ireturn, 1) := by decide +kernel
set_option maxRecDepth 20000 in
theorem ggX4_ask_X4_isComplaint : GoodIn wsX4_ask wsX4_isComplaint := goodIn_r _ [10, 11, 12, 13, 9, 14, 24, 25, 26, 27, 28, 29, 30, 31, 32, 33, 34, 35, 36, 37, 38, 39, 40, 41, 42, 43, 44, 45, 46, 47, 48, 49, 50] (by decide +kernel) (by decide +kernel)
set_option maxRecDepth 20000 in
theorem gX4_ask_X4_isComplaint : GoodIn wsX4_ask (wsV RX4 133 RX4 yX4_isComplaint wsX4_isComplaint) := goodIn_app (goodIn_of _ (by decide +kernel)) ggX4_ask_X4_isComplaint
set_option maxRecDepth 20000 in
theorem ggX4_ask_X4_asks : GoodIn wsX4_ask wsX4_asks := goodIn_r _ [18, 19, 24, 25, 26, 27, 28, 29, 30, 31, 32, 33, 34, 35, 36, 37, 38, 39, 40, 41, 42, 43, 44, 45, 46, 47, 48, 49, 50] (by decide +kernel) (by decide +kernel)
set_option maxRecDepth 20000 in
theorem gX4_ask_X4_asks : GoodIn wsX4_ask (wsV RX4 92 RX4 yX4_asks wsX4_asks) := goodIn_app (goodIn_of _ (by decide +kernel)) ggX4_ask_X4_asks
set_option maxRecDepth 20000 in
theorem ggX4_ask_X4_fails : GoodIn wsX4_ask wsX4_fails := goodIn_r _ [23, 19, 24, 25, 26, 27, 28, 29, 30, 31, 32, 33, 34, 35, 36, 37, 38, 39, 40, 41, 42, 43, 44, 45, 46, 47, 48, 49, 50] (by decide +kernel) (by decide +kernel)
set_option maxRecDepth 20000 in
theorem gX4_ask_X4_fails : GoodIn wsX4_ask (wsV RX4 99 RX4 yX4_fails wsX4_fails) := goodIn_app (goodIn_of _ (by decide +kernel)) ggX4_ask_X4_fails
theorem dX4_ask_0 : decode cX4_ask 0 = .ok (.aload_n 0, 1) := by decide +kernel
theorem dX4_ask_1 : decode cX4_ask 1 = .ok (.aload_n 0, 1) := by decide +kernel
theorem dX4_ask_2 : decode cX4_ask 2 = .ok (.iload_n 1, 1) := by decide +kernel
theorem dX4_ask_3 : decode cX4_ask 3 = .ok (.invokevirtual 133, 3) := by decide +kernel
theorem dX4_ask_6 : decode cX4_ask 6 = .ok (.invokevirtual 92, 3) := by decide +kernel
theorem dX4_ask_9 : decode cX4_ask 9 = .ok (.ifCond .ne 5, 3) := by decide +kernel
theorem dX4_ask_12 : decode cX4_ask 12 = .ok (.iconst 0, 1) := by decide +kernel
theorem dX4_ask_13 : decode cX4_ask 13 = .ok (.ireturn, 1) := by decide +kernel
theorem dX4_ask_14 : decode cX4_ask 14 = .ok (.aload_n 0, 1) := by decide +kernel
theorem dX4_ask_15 : decode cX4_ask 15 = .ok (.getfield 54, 3) := by decide +kernel
theorem dX4_ask_18 : decode cX4_ask 18 = .ok (.iload_n 1, 1) := by decide +kernel
theorem dX4_ask_19 : decode cX4_ask 19 = .ok (.iaload, 1) := by decide +kernel
theorem dX4_ask_20 : decode cX4_ask 20 = .ok (.ifCond .ne 13, 3) := by decide +kernel
theorem dX4_ask_23 : decode cX4_ask 23 = .ok (.aload_n 0, 1) := by decide +kernel
theorem dX4_ask_24 : decode cX4_ask 24 = .ok (.getfield 63, 3) := by decide +kernel
theorem dX4_ask_27 : decode cX4_ask 27 = .ok (.iload_n 1, 1) := by decide +kernel
theorem dX4_ask_28 : decode cX4_ask 28 = .ok (.iaload, 1) := by decide +kernel
theorem dX4_ask_29 : decode cX4_ask 29 = .ok (.iconst (-1), 1) := by decide +kernel
theorem dX4_ask_30 : decode cX4_ask 30 = .ok (.if_icmp .eq 9, 3) := by decide +kernel
theorem dX4_ask_33 : decode cX4_ask 33 = .ok (.aload_n 0, 1) := by decide +kernel
theorem dX4_ask_34 : decode cX4_ask 34 = .ok (.iconst 2, 1) := by decide +kernel
theorem dX4_ask_35 : decode cX4_ask 35 = .ok (.invokevirtual 99, 3) := by decide +kernel
theorem dX4_ask_38 : decode cX4_ask 38 = .ok (.ireturn, 1) := by decide +kernel
theorem dX4_ask_39 : decode cX4_ask 39 = .ok (.aload_n 0, 1) := by decide +kernel
theorem dX4_ask_40 : decode cX4_ask 40 = .ok (.getfield 63, 3) := by decide +kernel
theorem dX4_ask_43 : decode cX4_ask 43 = .ok (.iload_n 1, 1) := by decide +kernel
theorem dX4_ask_44 : decode cX4_ask 44 = .ok (.aload_n 0, 1) := by decide +kernel
theorem dX4_ask_45 : decode cX4_ask 45 = .ok (.getfield 107, 3) := by decide +kernel
theorem dX4_ask_48 : decode cX4_ask 48 = .ok (.iastore, 1) := by decide +kernel
theorem dX4_ask_49 : decode cX4_ask 49 = .ok (.aload_n 0, 1) := by decide +kernel
theorem dX4_ask_50 : decode cX4_ask 50 = .ok (.getfield 23, 3) := by decide +kernel
theorem dX4_ask_53 : decode cX4_ask 53 = .ok (.aload_n 0, 1) := by decide +kernel
theorem dX4_ask_54 : decode cX4_ask 54 = .ok (.getfield 51, 3) := by decide +kernel
theorem dX4_ask_57 : decode cX4_ask 57 = .ok (.iload_n 1, 1) := by decide +kernel
theorem dX4_ask_58 : decode cX4_ask 58 = .ok (.iaload, 1) := by decide +kernel
theorem dX4_ask_59 : decode cX4_ask 59 = .ok (.iaload, 1) := by decide +kernel
theorem dX4_ask_60 : decode cX4_ask 60 = .ok (.ireturn, 1) := by decide +kernel
set_option maxRecDepth 20000 in
theorem ggX4_answer_X4_isComplaint : GoodIn wsX4_answer wsX4_isComplaint := goodIn_r _ [8, 9, 10, 11, 7, 12, 26, 27, 28, 29, 30, 31, 32, 33, 34, 35, 36, 37, 38, 39, 40, 41, 42, 43, 44, 45, 46, 47, 48, 49, 50, 51, 52] (by decide +kernel) (by decide +kernel)
set_option maxRecDepth 20000 in
theorem gX4_answer_X4_isComplaint : GoodIn wsX4_answer (wsV RX4 133 RX4 yX4_isComplaint wsX4_isComplaint) := goodIn_app (goodIn_of _ (by decide +kernel)) ggX4_answer_X4_isComplaint
set_option maxRecDepth 20000 in
theorem ggX4_answer_X4_asks : GoodIn wsX4_answer wsX4_asks := goodIn_r _ [16, 17, 26, 27, 28, 29, 30, 31, 32, 33, 34, 35, 36, 37, 38, 39, 40, 41, 42, 43, 44, 45, 46, 47, 48, 49, 50, 51, 52] (by decide +kernel) (by decide +kernel)
set_option maxRecDepth 20000 in
theorem gX4_answer_X4_asks : GoodIn wsX4_answer (wsV RX4 92 RX4 yX4_asks wsX4_asks) := goodIn_app (goodIn_of _ (by decide +kernel)) ggX4_answer_X4_asks
set_option maxRecDepth 20000 in
theorem ggX4_answer_X4_isOwed : GoodIn wsX4_answer wsX4_isOwed := goodIn_r _ [21, 3, 1, 26, 27, 28, 29, 30, 31, 32, 33, 34, 35, 36, 37, 38, 39, 40, 41, 42, 43, 44, 45, 46, 47, 48, 49, 50, 51, 52] (by decide +kernel) (by decide +kernel)
set_option maxRecDepth 20000 in
theorem gX4_answer_X4_isOwed : GoodIn wsX4_answer (wsV RX4 136 RX4 yX4_isOwed wsX4_isOwed) := goodIn_app (goodIn_of _ (by decide +kernel)) ggX4_answer_X4_isOwed
set_option maxRecDepth 20000 in
theorem ggX4_answer_X4_fails : GoodIn wsX4_answer wsX4_fails := goodIn_r _ [25, 17, 26, 27, 28, 29, 30, 31, 32, 33, 34, 35, 36, 37, 38, 39, 40, 41, 42, 43, 44, 45, 46, 47, 48, 49, 50, 51, 52] (by decide +kernel) (by decide +kernel)
set_option maxRecDepth 20000 in
theorem gX4_answer_X4_fails : GoodIn wsX4_answer (wsV RX4 99 RX4 yX4_fails wsX4_fails) := goodIn_app (goodIn_of _ (by decide +kernel)) ggX4_answer_X4_fails
theorem dX4_answer_0 : decode cX4_answer 0 = .ok (.aload_n 0, 1) := by decide +kernel
theorem dX4_answer_1 : decode cX4_answer 1 = .ok (.aload_n 0, 1) := by decide +kernel
theorem dX4_answer_2 : decode cX4_answer 2 = .ok (.iload_n 1, 1) := by decide +kernel
theorem dX4_answer_3 : decode cX4_answer 3 = .ok (.invokevirtual 133, 3) := by decide +kernel
theorem dX4_answer_6 : decode cX4_answer 6 = .ok (.invokevirtual 92, 3) := by decide +kernel
theorem dX4_answer_9 : decode cX4_answer 9 = .ok (.ifCond .ne 5, 3) := by decide +kernel
theorem dX4_answer_12 : decode cX4_answer 12 = .ok (.iconst 0, 1) := by decide +kernel
theorem dX4_answer_13 : decode cX4_answer 13 = .ok (.ireturn, 1) := by decide +kernel
theorem dX4_answer_14 : decode cX4_answer 14 = .ok (.aload_n 0, 1) := by decide +kernel
theorem dX4_answer_15 : decode cX4_answer 15 = .ok (.iload_n 1, 1) := by decide +kernel
theorem dX4_answer_16 : decode cX4_answer 16 = .ok (.invokevirtual 136, 3) := by decide +kernel
theorem dX4_answer_19 : decode cX4_answer 19 = .ok (.ifCond .ne 9, 3) := by decide +kernel
theorem dX4_answer_22 : decode cX4_answer 22 = .ok (.aload_n 0, 1) := by decide +kernel
theorem dX4_answer_23 : decode cX4_answer 23 = .ok (.iconst 2, 1) := by decide +kernel
theorem dX4_answer_24 : decode cX4_answer 24 = .ok (.invokevirtual 99, 3) := by decide +kernel
theorem dX4_answer_27 : decode cX4_answer 27 = .ok (.ireturn, 1) := by decide +kernel
theorem dX4_answer_28 : decode cX4_answer 28 = .ok (.aload_n 0, 1) := by decide +kernel
theorem dX4_answer_29 : decode cX4_answer 29 = .ok (.getfield 66, 3) := by decide +kernel
theorem dX4_answer_32 : decode cX4_answer 32 = .ok (.iload_n 1, 1) := by decide +kernel
theorem dX4_answer_33 : decode cX4_answer 33 = .ok (.iconst 1, 1) := by decide +kernel
theorem dX4_answer_34 : decode cX4_answer 34 = .ok (.bastore, 1) := by decide +kernel
theorem dX4_answer_35 : decode cX4_answer 35 = .ok (.aload_n 0, 1) := by decide +kernel
theorem dX4_answer_36 : decode cX4_answer 36 = .ok (.getfield 107, 3) := by decide +kernel
theorem dX4_answer_39 : decode cX4_answer 39 = .ok (.aload_n 0, 1) := by decide +kernel
theorem dX4_answer_40 : decode cX4_answer 40 = .ok (.getfield 63, 3) := by decide +kernel
theorem dX4_answer_43 : decode cX4_answer 43 = .ok (.iload_n 1, 1) := by decide +kernel
theorem dX4_answer_44 : decode cX4_answer 44 = .ok (.iaload, 1) := by decide +kernel
theorem dX4_answer_45 : decode cX4_answer 45 = .ok (.isub, 1) := by decide +kernel
theorem dX4_answer_46 : decode cX4_answer 46 = .ok (.ireturn, 1) := by decide +kernel
set_option maxRecDepth 20000 in
theorem ggX4_hear_X4_isComplaint : GoodIn wsX4_hear wsX4_isComplaint := goodIn_r _ [9, 10, 11, 12, 8, 13, 18, 19, 20, 21, 22, 23, 24, 25, 26, 27, 28, 29, 30, 31, 32, 33, 34, 35, 36, 37, 38, 39, 40, 41, 42, 43, 44] (by decide +kernel) (by decide +kernel)
set_option maxRecDepth 20000 in
theorem gX4_hear_X4_isComplaint : GoodIn wsX4_hear (wsV RX4 133 RX4 yX4_isComplaint wsX4_isComplaint) := goodIn_app (goodIn_of _ (by decide +kernel)) ggX4_hear_X4_isComplaint
set_option maxRecDepth 20000 in
theorem ggX4_hear_X4_asks : GoodIn wsX4_hear wsX4_asks := goodIn_r _ [17, 4, 18, 19, 20, 21, 22, 23, 24, 25, 26, 27, 28, 29, 30, 31, 32, 33, 34, 35, 36, 37, 38, 39, 40, 41, 42, 43, 44] (by decide +kernel) (by decide +kernel)
set_option maxRecDepth 20000 in
theorem gX4_hear_X4_asks : GoodIn wsX4_hear (wsV RX4 92 RX4 yX4_asks wsX4_asks) := goodIn_app (goodIn_of _ (by decide +kernel)) ggX4_hear_X4_asks
theorem dX4_hear_0 : decode cX4_hear 0 = .ok (.aload_n 0, 1) := by decide +kernel
theorem dX4_hear_1 : decode cX4_hear 1 = .ok (.aload_n 0, 1) := by decide +kernel
theorem dX4_hear_2 : decode cX4_hear 2 = .ok (.iload_n 1, 1) := by decide +kernel
theorem dX4_hear_3 : decode cX4_hear 3 = .ok (.invokevirtual 133, 3) := by decide +kernel
theorem dX4_hear_6 : decode cX4_hear 6 = .ok (.invokevirtual 92, 3) := by decide +kernel
theorem dX4_hear_9 : decode cX4_hear 9 = .ok (.ifCond .ne 4, 3) := by decide +kernel
theorem dX4_hear_12 : decode cX4_hear 12 = .ok (.return_, 1) := by decide +kernel
theorem dX4_hear_13 : decode cX4_hear 13 = .ok (.aload_n 0, 1) := by decide +kernel
theorem dX4_hear_14 : decode cX4_hear 14 = .ok (.getfield 54, 3) := by decide +kernel
theorem dX4_hear_17 : decode cX4_hear 17 = .ok (.iload_n 1, 1) := by decide +kernel
theorem dX4_hear_18 : decode cX4_hear 18 = .ok (.iaload, 1) := by decide +kernel
theorem dX4_hear_19 : decode cX4_hear 19 = .ok (.ifCond .ne 21, 3) := by decide +kernel
theorem dX4_hear_22 : decode cX4_hear 22 = .ok (.aload_n 0, 1) := by decide +kernel
theorem dX4_hear_23 : decode cX4_hear 23 = .ok (.getfield 66, 3) := by decide +kernel
theorem dX4_hear_26 : decode cX4_hear 26 = .ok (.iload_n 1, 1) := by decide +kernel
theorem dX4_hear_27 : decode cX4_hear 27 = .ok (.baload, 1) := by decide +kernel
theorem dX4_hear_28 : decode cX4_hear 28 = .ok (.ifCond .eq 12, 3) := by decide +kernel
theorem dX4_hear_31 : decode cX4_hear 31 = .ok (.aload_n 0, 1) := by decide +kernel
theorem dX4_hear_32 : decode cX4_hear 32 = .ok (.getfield 69, 3) := by decide +kernel
theorem dX4_hear_35 : decode cX4_hear 35 = .ok (.iload_n 1, 1) := by decide +kernel
theorem dX4_hear_36 : decode cX4_hear 36 = .ok (.baload, 1) := by decide +kernel
theorem dX4_hear_37 : decode cX4_hear 37 = .ok (.ifCond .eq 9, 3) := by decide +kernel
theorem dX4_hear_40 : decode cX4_hear 40 = .ok (.aload_n 0, 1) := by decide +kernel
theorem dX4_hear_41 : decode cX4_hear 41 = .ok (.iconst 2, 1) := by decide +kernel
theorem dX4_hear_42 : decode cX4_hear 42 = .ok (.putfield 75, 3) := by decide +kernel
theorem dX4_hear_45 : decode cX4_hear 45 = .ok (.return_, 1) := by decide +kernel
theorem dX4_hear_46 : decode cX4_hear 46 = .ok (.aload_n 0, 1) := by decide +kernel
theorem dX4_hear_47 : decode cX4_hear 47 = .ok (.getfield 69, 3) := by decide +kernel
theorem dX4_hear_50 : decode cX4_hear 50 = .ok (.iload_n 1, 1) := by decide +kernel
theorem dX4_hear_51 : decode cX4_hear 51 = .ok (.iconst 1, 1) := by decide +kernel
theorem dX4_hear_52 : decode cX4_hear 52 = .ok (.bastore, 1) := by decide +kernel
theorem dX4_hear_53 : decode cX4_hear 53 = .ok (.return_, 1) := by decide +kernel
theorem dX4_areLike_0 : decode cX4_areLike 0 = .ok (.iload_n 1, 1) := by decide +kernel
theorem dX4_areLike_1 : decode cX4_areLike 1 = .ok (.iload_n 2, 1) := by decide +kernel
theorem dX4_areLike_2 : decode cX4_areLike 2 = .ok (.if_icmp .eq 37, 3) := by decide +kernel
theorem dX4_areLike_5 : decode cX4_areLike 5 = .ok (.aload_n 0, 1) := by decide +kernel
theorem dX4_areLike_6 : decode cX4_areLike 6 = .ok (.getfield 26, 3) := by decide +kernel
theorem dX4_areLike_9 : decode cX4_areLike 9 = .ok (.iload_n 1, 1) := by decide +kernel
theorem dX4_areLike_10 : decode cX4_areLike 10 = .ok (.iaload, 1) := by decide +kernel
theorem dX4_areLike_11 : decode cX4_areLike 11 = .ok (.aload_n 0, 1) := by decide +kernel
theorem dX4_areLike_12 : decode cX4_areLike 12 = .ok (.getfield 26, 3) := by decide +kernel
theorem dX4_areLike_15 : decode cX4_areLike 15 = .ok (.iload_n 2, 1) := by decide +kernel
theorem dX4_areLike_16 : decode cX4_areLike 16 = .ok (.iaload, 1) := by decide +kernel
theorem dX4_areLike_17 : decode cX4_areLike 17 = .ok (.if_icmp .ne 22, 3) := by decide +kernel
theorem dX4_areLike_20 : decode cX4_areLike 20 = .ok (.aload_n 0, 1) := by decide +kernel
theorem dX4_areLike_21 : decode cX4_areLike 21 = .ok (.getfield 23, 3) := by decide +kernel
theorem dX4_areLike_24 : decode cX4_areLike 24 = .ok (.iload_n 1, 1) := by decide +kernel
theorem dX4_areLike_25 : decode cX4_areLike 25 = .ok (.iaload, 1) := by decide +kernel
theorem dX4_areLike_26 : decode cX4_areLike 26 = .ok (.aload_n 0, 1) := by decide +kernel
theorem dX4_areLike_27 : decode cX4_areLike 27 = .ok (.getfield 23, 3) := by decide +kernel
theorem dX4_areLike_30 : decode cX4_areLike 30 = .ok (.iload_n 2, 1) := by decide +kernel
theorem dX4_areLike_31 : decode cX4_areLike 31 = .ok (.iaload, 1) := by decide +kernel
theorem dX4_areLike_32 : decode cX4_areLike 32 = .ok (.if_icmp .ne 7, 3) := by decide +kernel
theorem dX4_areLike_35 : decode cX4_areLike 35 = .ok (.iconst 1, 1) := by decide +kernel
theorem dX4_areLike_36 : decode cX4_areLike 36 = .ok (.goto 4, 3) := by decide +kernel
theorem dX4_areLike_39 : decode cX4_areLike 39 = .ok (.iconst 0, 1) := by decide +kernel
theorem dX4_areLike_40 : decode cX4_areLike 40 = .ok (.ireturn, 1) := by decide +kernel
set_option maxRecDepth 20000 in
theorem ggX4_likesOf_X4_areLike : GoodIn wsX4_likesOf wsX4_areLike := goodIn_r _ [6, 7, 8, 9, 10, 11, 12, 13, 14, 15, 16, 17, 18, 19, 20, 21, 22, 23, 24, 25, 26, 27, 28, 29, 30, 31, 32, 33, 34, 35] (by decide +kernel) (by decide +kernel)
set_option maxRecDepth 20000 in
theorem gX4_likesOf_X4_areLike : GoodIn wsX4_likesOf (wsV RX4 139 RX4 yX4_areLike wsX4_areLike) := goodIn_app (goodIn_of _ (by decide +kernel)) ggX4_likesOf_X4_areLike
theorem dX4_likesOf_0 : decode cX4_likesOf 0 = .ok (.iconst 0, 1) := by decide +kernel
theorem dX4_likesOf_1 : decode cX4_likesOf 1 = .ok (.istore_n 2, 1) := by decide +kernel
theorem dX4_likesOf_2 : decode cX4_likesOf 2 = .ok (.iconst 0, 1) := by decide +kernel
theorem dX4_likesOf_3 : decode cX4_likesOf 3 = .ok (.istore_n 3, 1) := by decide +kernel
theorem dX4_likesOf_4 : decode cX4_likesOf 4 = .ok (.iload_n 3, 1) := by decide +kernel
theorem dX4_likesOf_5 : decode cX4_likesOf 5 = .ok (.aload_n 0, 1) := by decide +kernel
theorem dX4_likesOf_6 : decode cX4_likesOf 6 = .ok (.getfield 86, 3) := by decide +kernel
theorem dX4_likesOf_9 : decode cX4_likesOf 9 = .ok (.if_icmp .ge 26, 3) := by decide +kernel
theorem dX4_likesOf_12 : decode cX4_likesOf 12 = .ok (.iload_n 2, 1) := by decide +kernel
theorem dX4_likesOf_13 : decode cX4_likesOf 13 = .ok (.aload_n 0, 1) := by decide +kernel
theorem dX4_likesOf_14 : decode cX4_likesOf 14 = .ok (.iload_n 1, 1) := by decide +kernel
theorem dX4_likesOf_15 : decode cX4_likesOf 15 = .ok (.iload_n 3, 1) := by decide +kernel
theorem dX4_likesOf_16 : decode cX4_likesOf 16 = .ok (.invokevirtual 139, 3) := by decide +kernel
theorem dX4_likesOf_19 : decode cX4_likesOf 19 = .ok (.ifCond .eq 7, 3) := by decide +kernel
theorem dX4_likesOf_22 : decode cX4_likesOf 22 = .ok (.iconst 1, 1) := by decide +kernel
theorem dX4_likesOf_23 : decode cX4_likesOf 23 = .ok (.goto 4, 3) := by decide +kernel
theorem dX4_likesOf_26 : decode cX4_likesOf 26 = .ok (.iconst 0, 1) := by decide +kernel
theorem dX4_likesOf_27 : decode cX4_likesOf 27 = .ok (.iadd, 1) := by decide +kernel
theorem dX4_likesOf_28 : decode cX4_likesOf 28 = .ok (.istore_n 2, 1) := by decide +kernel
theorem dX4_likesOf_29 : decode cX4_likesOf 29 = .ok (.iinc 3 1, 3) := by decide +kernel
theorem dX4_likesOf_32 : decode cX4_likesOf 32 = .ok (.goto (-28), 3) := by decide +kernel
theorem dX4_likesOf_35 : decode cX4_likesOf 35 = .ok (.iload_n 2, 1) := by decide +kernel
theorem dX4_likesOf_36 : decode cX4_likesOf 36 = .ok (.ireturn, 1) := by decide +kernel
theorem dX4_doesFail_0 : decode cX4_doesFail 0 = .ok (.aload_n 0, 1) := by decide +kernel
theorem dX4_doesFail_1 : decode cX4_doesFail 1 = .ok (.getfield 32, 3) := by decide +kernel
theorem dX4_doesFail_4 : decode cX4_doesFail 4 = .ok (.iload_n 1, 1) := by decide +kernel
theorem dX4_doesFail_5 : decode cX4_doesFail 5 = .ok (.iaload, 1) := by decide +kernel
theorem dX4_doesFail_6 : decode cX4_doesFail 6 = .ok (.aload_n 0, 1) := by decide +kernel
theorem dX4_doesFail_7 : decode cX4_doesFail 7 = .ok (.getfield 20, 3) := by decide +kernel
theorem dX4_doesFail_10 : decode cX4_doesFail 10 = .ok (.sipush 5001, 3) := by decide +kernel
theorem dX4_doesFail_13 : decode cX4_doesFail 13 = .ok (.aload_n 0, 1) := by decide +kernel
theorem dX4_doesFail_14 : decode cX4_doesFail 14 = .ok (.getfield 26, 3) := by decide +kernel
theorem dX4_doesFail_17 : decode cX4_doesFail 17 = .ok (.iload_n 1, 1) := by decide +kernel
theorem dX4_doesFail_18 : decode cX4_doesFail 18 = .ok (.iaload, 1) := by decide +kernel
theorem dX4_doesFail_19 : decode cX4_doesFail 19 = .ok (.imul, 1) := by decide +kernel
theorem dX4_doesFail_20 : decode cX4_doesFail 20 = .ok (.aload_n 0, 1) := by decide +kernel
theorem dX4_doesFail_21 : decode cX4_doesFail 21 = .ok (.getfield 29, 3) := by decide +kernel
theorem dX4_doesFail_24 : decode cX4_doesFail 24 = .ok (.iload_n 1, 1) := by decide +kernel
theorem dX4_doesFail_25 : decode cX4_doesFail 25 = .ok (.iaload, 1) := by decide +kernel
theorem dX4_doesFail_26 : decode cX4_doesFail 26 = .ok (.iadd, 1) := by decide +kernel
theorem dX4_doesFail_27 : decode cX4_doesFail 27 = .ok (.iaload, 1) := by decide +kernel
theorem dX4_doesFail_28 : decode cX4_doesFail 28 = .ok (.if_icmp .le 7, 3) := by decide +kernel
theorem dX4_doesFail_31 : decode cX4_doesFail 31 = .ok (.iconst 1, 1) := by decide +kernel
theorem dX4_doesFail_32 : decode cX4_doesFail 32 = .ok (.goto 4, 3) := by decide +kernel
theorem dX4_doesFail_35 : decode cX4_doesFail 35 = .ok (.iconst 0, 1) := by decide +kernel
theorem dX4_doesFail_36 : decode cX4_doesFail 36 = .ok (.ireturn, 1) := by decide +kernel
set_option maxRecDepth 20000 in
theorem ggX4_isUnequal_X4_likesOf : GoodIn wsX4_isUnequal wsX4_likesOf := goodIn_r _ [7, 1, 8, 9, 10, 6, 11, 12, 13, 14, 15, 16, 17, 18, 19, 20, 21, 22, 23, 24, 25, 26, 27, 28, 29, 30, 31, 32, 33, 34, 35, 36, 37, 38, 39, 40] (by decide +kernel) (by decide +kernel)
set_option maxRecDepth 20000 in
theorem gX4_isUnequal_X4_likesOf : GoodIn wsX4_isUnequal (wsV RX4 142 RX4 yX4_likesOf wsX4_likesOf) := goodIn_app (goodIn_of _ (by decide +kernel)) ggX4_isUnequal_X4_likesOf
set_option maxRecDepth 20000 in
theorem ggX4_isUnequal_X4_areLike : GoodIn wsX4_isUnequal wsX4_areLike := goodIn_r _ [11, 12, 13, 14, 15, 16, 17, 18, 19, 20, 21, 22, 23, 24, 25, 26, 27, 28, 29, 30, 31, 32, 33, 34, 35, 36, 37, 38, 39, 40] (by decide +kernel) (by decide +kernel)
set_option maxRecDepth 20000 in
theorem gX4_isUnequal_X4_areLike : GoodIn wsX4_isUnequal (wsV RX4 139 RX4 yX4_areLike wsX4_areLike) := goodIn_app (goodIn_of _ (by decide +kernel)) ggX4_isUnequal_X4_areLike
theorem dX4_isUnequal_0 : decode cX4_isUnequal 0 = .ok (.aload_n 0, 1) := by decide +kernel
theorem dX4_isUnequal_1 : decode cX4_isUnequal 1 = .ok (.iload_n 1, 1) := by decide +kernel
theorem dX4_isUnequal_2 : decode cX4_isUnequal 2 = .ok (.invokevirtual 142, 3) := by decide +kernel
theorem dX4_isUnequal_5 : decode cX4_isUnequal 5 = .ok (.istore_n 2, 1) := by decide +kernel
theorem dX4_isUnequal_6 : decode cX4_isUnequal 6 = .ok (.iconst 0, 1) := by decide +kernel
theorem dX4_isUnequal_7 : decode cX4_isUnequal 7 = .ok (.istore_n 3, 1) := by decide +kernel
theorem dX4_isUnequal_8 : decode cX4_isUnequal 8 = .ok (.iconst 0, 1) := by decide +kernel
theorem dX4_isUnequal_9 : decode cX4_isUnequal 9 = .ok (.istore 4, 2) := by decide +kernel
theorem dX4_isUnequal_11 : decode cX4_isUnequal 11 = .ok (.iload 4, 2) := by decide +kernel
theorem dX4_isUnequal_13 : decode cX4_isUnequal 13 = .ok (.aload_n 0, 1) := by decide +kernel
theorem dX4_isUnequal_14 : decode cX4_isUnequal 14 = .ok (.getfield 86, 3) := by decide +kernel
theorem dX4_isUnequal_17 : decode cX4_isUnequal 17 = .ok (.if_icmp .ge 33, 3) := by decide +kernel
theorem dX4_isUnequal_20 : decode cX4_isUnequal 20 = .ok (.iload_n 3, 1) := by decide +kernel
theorem dX4_isUnequal_21 : decode cX4_isUnequal 21 = .ok (.aload_n 0, 1) := by decide +kernel
theorem dX4_isUnequal_22 : decode cX4_isUnequal 22 = .ok (.iload_n 1, 1) := by decide +kernel
theorem dX4_isUnequal_23 : decode cX4_isUnequal 23 = .ok (.iload 4, 2) := by decide +kernel
theorem dX4_isUnequal_25 : decode cX4_isUnequal 25 = .ok (.invokevirtual 139, 3) := by decide +kernel
theorem dX4_isUnequal_28 : decode cX4_isUnequal 28 = .ok (.ifCond .eq 13, 3) := by decide +kernel
theorem dX4_isUnequal_31 : decode cX4_isUnequal 31 = .ok (.aload_n 0, 1) := by decide +kernel
theorem dX4_isUnequal_32 : decode cX4_isUnequal 32 = .ok (.getfield 32, 3) := by decide +kernel
theorem dX4_isUnequal_35 : decode cX4_isUnequal 35 = .ok (.iload 4, 2) := by decide +kernel
theorem dX4_isUnequal_37 : decode cX4_isUnequal 37 = .ok (.iaload, 1) := by decide +kernel
theorem dX4_isUnequal_38 : decode cX4_isUnequal 38 = .ok (.goto 4, 3) := by decide +kernel
theorem dX4_isUnequal_41 : decode cX4_isUnequal 41 = .ok (.iconst 0, 1) := by decide +kernel
theorem dX4_isUnequal_42 : decode cX4_isUnequal 42 = .ok (.iadd, 1) := by decide +kernel
theorem dX4_isUnequal_43 : decode cX4_isUnequal 43 = .ok (.istore_n 3, 1) := by decide +kernel
theorem dX4_isUnequal_44 : decode cX4_isUnequal 44 = .ok (.iinc 4 1, 3) := by decide +kernel
theorem dX4_isUnequal_47 : decode cX4_isUnequal 47 = .ok (.goto (-36), 3) := by decide +kernel
theorem dX4_isUnequal_50 : decode cX4_isUnequal 50 = .ok (.iload_n 2, 1) := by decide +kernel
theorem dX4_isUnequal_51 : decode cX4_isUnequal 51 = .ok (.iconst 2, 1) := by decide +kernel
theorem dX4_isUnequal_52 : decode cX4_isUnequal 52 = .ok (.if_icmp .lt 21, 3) := by decide +kernel
theorem dX4_isUnequal_55 : decode cX4_isUnequal 55 = .ok (.aload_n 0, 1) := by decide +kernel
theorem dX4_isUnequal_56 : decode cX4_isUnequal 56 = .ok (.getfield 32, 3) := by decide +kernel
theorem dX4_isUnequal_59 : decode cX4_isUnequal 59 = .ok (.iload_n 1, 1) := by decide +kernel
theorem dX4_isUnequal_60 : decode cX4_isUnequal 60 = .ok (.iaload, 1) := by decide +kernel
theorem dX4_isUnequal_61 : decode cX4_isUnequal 61 = .ok (.iconst 2, 1) := by decide +kernel
theorem dX4_isUnequal_62 : decode cX4_isUnequal 62 = .ok (.iload_n 3, 1) := by decide +kernel
theorem dX4_isUnequal_63 : decode cX4_isUnequal 63 = .ok (.iload_n 2, 1) := by decide +kernel
theorem dX4_isUnequal_64 : decode cX4_isUnequal 64 = .ok (.idiv, 1) := by decide +kernel
theorem dX4_isUnequal_65 : decode cX4_isUnequal 65 = .ok (.imul, 1) := by decide +kernel
theorem dX4_isUnequal_66 : decode cX4_isUnequal 66 = .ok (.if_icmp .le 7, 3) := by decide +kernel
theorem dX4_isUnequal_69 : decode cX4_isUnequal 69 = .ok (.iconst 1, 1) := by decide +kernel
theorem dX4_isUnequal_70 : decode cX4_isUnequal 70 = .ok (.goto 4, 3) := by decide +kernel
theorem dX4_isUnequal_73 : decode cX4_isUnequal 73 = .ok (.iconst 0, 1) := by decide +kernel
theorem dX4_isUnequal_74 : decode cX4_isUnequal 74 = .ok (.ireturn, 1) := by decide +kernel
set_option maxRecDepth 20000 in
theorem ggX4_faultOf_X4_doesFail : GoodIn wsX4_faultOf wsX4_doesFail := goodIn_r _ [5, 6, 7, 8, 9, 24, 25, 26, 27, 28, 29, 30, 31, 32, 33, 34, 35, 36, 37, 38, 39, 40, 41, 42, 43, 44, 45, 46, 47, 48, 49, 50] (by decide +kernel) (by decide +kernel)
set_option maxRecDepth 20000 in
theorem gX4_faultOf_X4_doesFail : GoodIn wsX4_faultOf (wsV RX4 145 RX4 yX4_doesFail wsX4_doesFail) := goodIn_app (goodIn_of _ (by decide +kernel)) ggX4_faultOf_X4_doesFail
set_option maxRecDepth 20000 in
theorem ggX4_faultOf_X4_isUnequal : GoodIn wsX4_faultOf wsX4_isUnequal := goodIn_r _ [13, 14, 6, 15, 16, 17, 4, 18, 19, 20, 21, 22, 8, 23, 24, 25, 26, 27, 28, 29, 30, 31, 32, 33, 34, 35, 36, 37, 38, 39, 40, 41, 42, 43, 44, 45, 46, 47, 48, 49, 50] (by decide +kernel) (by decide +kernel)
set_option maxRecDepth 20000 in
theorem gX4_faultOf_X4_isUnequal : GoodIn wsX4_faultOf (wsV RX4 148 RX4 yX4_isUnequal wsX4_isUnequal) := goodIn_app (goodIn_of _ (by decide +kernel)) ggX4_faultOf_X4_isUnequal
theorem dX4_faultOf_0 : decode cX4_faultOf 0 = .ok (.aload_n 0, 1) := by decide +kernel
theorem dX4_faultOf_1 : decode cX4_faultOf 1 = .ok (.iload_n 1, 1) := by decide +kernel
theorem dX4_faultOf_2 : decode cX4_faultOf 2 = .ok (.invokevirtual 145, 3) := by decide +kernel
theorem dX4_faultOf_5 : decode cX4_faultOf 5 = .ok (.ifCond .eq 7, 3) := by decide +kernel
theorem dX4_faultOf_8 : decode cX4_faultOf 8 = .ok (.iconst 1, 1) := by decide +kernel
theorem dX4_faultOf_9 : decode cX4_faultOf 9 = .ok (.goto 4, 3) := by decide +kernel
theorem dX4_faultOf_12 : decode cX4_faultOf 12 = .ok (.iconst 0, 1) := by decide +kernel
theorem dX4_faultOf_13 : decode cX4_faultOf 13 = .ok (.aload_n 0, 1) := by decide +kernel
theorem dX4_faultOf_14 : decode cX4_faultOf 14 = .ok (.iload_n 1, 1) := by decide +kernel
theorem dX4_faultOf_15 : decode cX4_faultOf 15 = .ok (.invokevirtual 148, 3) := by decide +kernel
theorem dX4_faultOf_18 : decode cX4_faultOf 18 = .ok (.ifCond .eq 7, 3) := by decide +kernel
theorem dX4_faultOf_21 : decode cX4_faultOf 21 = .ok (.iconst 2, 1) := by decide +kernel
theorem dX4_faultOf_22 : decode cX4_faultOf 22 = .ok (.goto 4, 3) := by decide +kernel
theorem dX4_faultOf_25 : decode cX4_faultOf 25 = .ok (.iconst 0, 1) := by decide +kernel
theorem dX4_faultOf_26 : decode cX4_faultOf 26 = .ok (.iadd, 1) := by decide +kernel
theorem dX4_faultOf_27 : decode cX4_faultOf 27 = .ok (.ireturn, 1) := by decide +kernel
set_option maxRecDepth 20000 in
theorem ggX4_find_X4_isComplaint : GoodIn wsX4_find wsX4_isComplaint := goodIn_r _ [9, 10, 11, 12, 8, 13, 49, 50, 51, 52, 53, 54, 55, 56, 57, 58, 59, 60, 61, 62, 63, 64, 65, 66, 67, 68, 69, 70, 71, 72, 73, 74, 75] (by decide +kernel) (by decide +kernel)
set_option maxRecDepth 20000 in
theorem gX4_find_X4_isComplaint : GoodIn wsX4_find (wsV RX4 133 RX4 yX4_isComplaint wsX4_isComplaint) := goodIn_app (goodIn_of _ (by decide +kernel)) ggX4_find_X4_isComplaint
set_option maxRecDepth 20000 in
theorem ggX4_find_X4_asks : GoodIn wsX4_find wsX4_asks := goodIn_r _ [17, 18, 49, 50, 51, 52, 53, 54, 55, 56, 57, 58, 59, 60, 61, 62, 63, 64, 65, 66, 67, 68, 69, 70, 71, 72, 73, 74, 75] (by decide +kernel) (by decide +kernel)
set_option maxRecDepth 20000 in
theorem gX4_find_X4_asks : GoodIn wsX4_find (wsV RX4 92 RX4 yX4_asks wsX4_asks) := goodIn_app (goodIn_of _ (by decide +kernel)) ggX4_find_X4_asks
set_option maxRecDepth 20000 in
theorem ggX4_find_X4_fails : GoodIn wsX4_find wsX4_fails := goodIn_r _ [22, 18, 49, 50, 51, 52, 53, 54, 55, 56, 57, 58, 59, 60, 61, 62, 63, 64, 65, 66, 67, 68, 69, 70, 71, 72, 73, 74, 75] (by decide +kernel) (by decide +kernel)
set_option maxRecDepth 20000 in
theorem gX4_find_X4_fails : GoodIn wsX4_find (wsV RX4 99 RX4 yX4_fails wsX4_fails) := goodIn_app (goodIn_of _ (by decide +kernel)) ggX4_find_X4_fails
set_option maxRecDepth 20000 in
theorem ggX4_find_X4_faultOf : GoodIn wsX4_find wsX4_faultOf := goodIn_r _ [26, 27, 28, 29, 8, 30, 31, 32, 33, 34, 35, 36, 37, 38, 39, 40, 41, 42, 43, 44, 45, 46, 47, 48, 49, 50, 51, 52, 53, 54, 55, 56, 57, 58, 59, 60, 61, 62, 63, 64, 65, 66, 67, 68, 69, 70, 71, 72, 73, 74, 75] (by decide +kernel) (by decide +kernel)
set_option maxRecDepth 20000 in
theorem gX4_find_X4_faultOf : GoodIn wsX4_find (wsV RX4 151 RX4 yX4_faultOf wsX4_faultOf) := goodIn_app (goodIn_of _ (by decide +kernel)) ggX4_find_X4_faultOf
theorem dX4_find_0 : decode cX4_find 0 = .ok (.aload_n 0, 1) := by decide +kernel
theorem dX4_find_1 : decode cX4_find 1 = .ok (.aload_n 0, 1) := by decide +kernel
theorem dX4_find_2 : decode cX4_find 2 = .ok (.iload_n 1, 1) := by decide +kernel
theorem dX4_find_3 : decode cX4_find 3 = .ok (.invokevirtual 133, 3) := by decide +kernel
theorem dX4_find_6 : decode cX4_find 6 = .ok (.invokevirtual 92, 3) := by decide +kernel
theorem dX4_find_9 : decode cX4_find 9 = .ok (.ifCond .ne 5, 3) := by decide +kernel
theorem dX4_find_12 : decode cX4_find 12 = .ok (.iconst 0, 1) := by decide +kernel
theorem dX4_find_13 : decode cX4_find 13 = .ok (.ireturn, 1) := by decide +kernel
theorem dX4_find_14 : decode cX4_find 14 = .ok (.aload_n 0, 1) := by decide +kernel
theorem dX4_find_15 : decode cX4_find 15 = .ok (.getfield 54, 3) := by decide +kernel
theorem dX4_find_18 : decode cX4_find 18 = .ok (.iload_n 1, 1) := by decide +kernel
theorem dX4_find_19 : decode cX4_find 19 = .ok (.iaload, 1) := by decide +kernel
theorem dX4_find_20 : decode cX4_find 20 = .ok (.ifCond .ne 12, 3) := by decide +kernel
theorem dX4_find_23 : decode cX4_find 23 = .ok (.aload_n 0, 1) := by decide +kernel
theorem dX4_find_24 : decode cX4_find 24 = .ok (.getfield 69, 3) := by decide +kernel
theorem dX4_find_27 : decode cX4_find 27 = .ok (.iload_n 1, 1) := by decide +kernel
theorem dX4_find_28 : decode cX4_find 28 = .ok (.baload, 1) := by decide +kernel
theorem dX4_find_29 : decode cX4_find 29 = .ok (.ifCond .ne 9, 3) := by decide +kernel
theorem dX4_find_32 : decode cX4_find 32 = .ok (.aload_n 0, 1) := by decide +kernel
theorem dX4_find_33 : decode cX4_find 33 = .ok (.iconst 2, 1) := by decide +kernel
theorem dX4_find_34 : decode cX4_find 34 = .ok (.invokevirtual 99, 3) := by decide +kernel
theorem dX4_find_37 : decode cX4_find 37 = .ok (.ireturn, 1) := by decide +kernel
theorem dX4_find_38 : decode cX4_find 38 = .ok (.aload_n 0, 1) := by decide +kernel
theorem dX4_find_39 : decode cX4_find 39 = .ok (.getfield 54, 3) := by decide +kernel
theorem dX4_find_42 : decode cX4_find 42 = .ok (.iload_n 1, 1) := by decide +kernel
theorem dX4_find_43 : decode cX4_find 43 = .ok (.iconst 1, 1) := by decide +kernel
theorem dX4_find_44 : decode cX4_find 44 = .ok (.iastore, 1) := by decide +kernel
theorem dX4_find_45 : decode cX4_find 45 = .ok (.aload_n 0, 1) := by decide +kernel
theorem dX4_find_46 : decode cX4_find 46 = .ok (.getfield 72, 3) := by decide +kernel
theorem dX4_find_49 : decode cX4_find 49 = .ok (.iload_n 1, 1) := by decide +kernel
theorem dX4_find_50 : decode cX4_find 50 = .ok (.aload_n 0, 1) := by decide +kernel
theorem dX4_find_51 : decode cX4_find 51 = .ok (.aload_n 0, 1) := by decide +kernel
theorem dX4_find_52 : decode cX4_find 52 = .ok (.getfield 51, 3) := by decide +kernel
theorem dX4_find_55 : decode cX4_find 55 = .ok (.iload_n 1, 1) := by decide +kernel
theorem dX4_find_56 : decode cX4_find 56 = .ok (.iaload, 1) := by decide +kernel
theorem dX4_find_57 : decode cX4_find 57 = .ok (.invokevirtual 151, 3) := by decide +kernel
theorem dX4_find_60 : decode cX4_find 60 = .ok (.iastore, 1) := by decide +kernel
theorem dX4_find_61 : decode cX4_find 61 = .ok (.aload_n 0, 1) := by decide +kernel
theorem dX4_find_62 : decode cX4_find 62 = .ok (.getfield 72, 3) := by decide +kernel
theorem dX4_find_65 : decode cX4_find 65 = .ok (.iload_n 1, 1) := by decide +kernel
theorem dX4_find_66 : decode cX4_find 66 = .ok (.iaload, 1) := by decide +kernel
theorem dX4_find_67 : decode cX4_find 67 = .ok (.ireturn, 1) := by decide +kernel
set_option maxRecDepth 20000 in
theorem ggX4_remedy_X4_isComplaint : GoodIn wsX4_remedy wsX4_isComplaint := goodIn_r _ [11, 12, 13, 14, 10, 15, 50, 51, 52, 53, 54, 55, 56, 57, 58, 59, 60, 61, 62, 63, 64, 65, 66, 67, 68, 69, 70, 71, 72, 73, 74, 75, 76] (by decide +kernel) (by decide +kernel)
set_option maxRecDepth 20000 in
theorem gX4_remedy_X4_isComplaint : GoodIn wsX4_remedy (wsV RX4 133 RX4 yX4_isComplaint wsX4_isComplaint) := goodIn_app (goodIn_of _ (by decide +kernel)) ggX4_remedy_X4_isComplaint
set_option maxRecDepth 20000 in
theorem ggX4_remedy_X4_asks : GoodIn wsX4_remedy wsX4_asks := goodIn_r _ [19, 20, 50, 51, 52, 53, 54, 55, 56, 57, 58, 59, 60, 61, 62, 63, 64, 65, 66, 67, 68, 69, 70, 71, 72, 73, 74, 75, 76] (by decide +kernel) (by decide +kernel)
set_option maxRecDepth 20000 in
theorem gX4_remedy_X4_asks : GoodIn wsX4_remedy (wsV RX4 92 RX4 yX4_asks wsX4_asks) := goodIn_app (goodIn_of _ (by decide +kernel)) ggX4_remedy_X4_asks
set_option maxRecDepth 20000 in
theorem ggX4_remedy_X4_in : GoodIn wsX4_remedy wsX4_in := goodIn_r _ [15] (by decide +kernel) (by decide +kernel)
set_option maxRecDepth 20000 in
theorem gX4_remedy_X4_in : GoodIn wsX4_remedy (va_wsS RX4 82 yX4_in wsX4_in) := goodIn_app (goodIn_of _ (by decide +kernel)) ggX4_remedy_X4_in
set_option maxRecDepth 20000 in
theorem ggX4_remedy_X4_fails : GoodIn wsX4_remedy wsX4_fails := goodIn_r _ [24, 20, 50, 51, 52, 53, 54, 55, 56, 57, 58, 59, 60, 61, 62, 63, 64, 65, 66, 67, 68, 69, 70, 71, 72, 73, 74, 75, 76] (by decide +kernel) (by decide +kernel)
set_option maxRecDepth 20000 in
theorem gX4_remedy_X4_fails : GoodIn wsX4_remedy (wsV RX4 99 RX4 yX4_fails wsX4_fails) := goodIn_app (goodIn_of _ (by decide +kernel)) ggX4_remedy_X4_fails
set_option maxRecDepth 20000 in
theorem ggX4_remedy_X4_areLike : GoodIn wsX4_remedy wsX4_areLike := goodIn_r _ [28, 29, 30, 50, 51, 52, 53, 54, 55, 56, 57, 58, 59, 60, 61, 62, 63, 64, 65, 66, 67, 68, 69, 70, 71, 72, 73, 74, 75, 76] (by decide +kernel) (by decide +kernel)
set_option maxRecDepth 20000 in
theorem gX4_remedy_X4_areLike : GoodIn wsX4_remedy (wsV RX4 139 RX4 yX4_areLike wsX4_areLike) := goodIn_app (goodIn_of _ (by decide +kernel)) ggX4_remedy_X4_areLike
set_option maxRecDepth 20000 in
theorem ggX4_remedy_X4_faultOf : GoodIn wsX4_remedy wsX4_faultOf := goodIn_r _ [34, 35, 36, 37, 10, 38, 39, 40, 29, 41, 42, 43, 44, 45, 4, 46, 47, 48, 49, 25, 26, 27, 28, 30, 50, 51, 52, 53, 54, 55, 56, 57, 58, 59, 60, 61, 62, 63, 64, 65, 66, 67, 68, 69, 70, 71, 72, 73, 74, 75, 76] (by decide +kernel) (by decide +kernel)
set_option maxRecDepth 20000 in
theorem gX4_remedy_X4_faultOf : GoodIn wsX4_remedy (wsV RX4 151 RX4 yX4_faultOf wsX4_faultOf) := goodIn_app (goodIn_of _ (by decide +kernel)) ggX4_remedy_X4_faultOf
theorem dX4_remedy_0 : decode cX4_remedy 0 = .ok (.aload_n 0, 1) := by decide +kernel
theorem dX4_remedy_1 : decode cX4_remedy 1 = .ok (.aload_n 0, 1) := by decide +kernel
theorem dX4_remedy_2 : decode cX4_remedy 2 = .ok (.iload_n 1, 1) := by decide +kernel
theorem dX4_remedy_3 : decode cX4_remedy 3 = .ok (.invokevirtual 133, 3) := by decide +kernel
theorem dX4_remedy_6 : decode cX4_remedy 6 = .ok (.invokevirtual 92, 3) := by decide +kernel
theorem dX4_remedy_9 : decode cX4_remedy 9 = .ok (.ifCond .ne 5, 3) := by decide +kernel
theorem dX4_remedy_12 : decode cX4_remedy 12 = .ok (.iconst 0, 1) := by decide +kernel
theorem dX4_remedy_13 : decode cX4_remedy 13 = .ok (.ireturn, 1) := by decide +kernel
theorem dX4_remedy_14 : decode cX4_remedy 14 = .ok (.iload_n 2, 1) := by decide +kernel
theorem dX4_remedy_15 : decode cX4_remedy 15 = .ok (.iconst 0, 1) := by decide +kernel
theorem dX4_remedy_16 : decode cX4_remedy 16 = .ok (.bipush 100, 2) := by decide +kernel
theorem dX4_remedy_18 : decode cX4_remedy 18 = .ok (.invokestatic 82, 3) := by decide +kernel
theorem dX4_remedy_21 : decode cX4_remedy 21 = .ok (.ifCond .ne 9, 3) := by decide +kernel
theorem dX4_remedy_24 : decode cX4_remedy 24 = .ok (.aload_n 0, 1) := by decide +kernel
theorem dX4_remedy_25 : decode cX4_remedy 25 = .ok (.iconst 2, 1) := by decide +kernel
theorem dX4_remedy_26 : decode cX4_remedy 26 = .ok (.invokevirtual 99, 3) := by decide +kernel
theorem dX4_remedy_29 : decode cX4_remedy 29 = .ok (.ireturn, 1) := by decide +kernel
theorem dX4_remedy_30 : decode cX4_remedy 30 = .ok (.aload_n 0, 1) := by decide +kernel
theorem dX4_remedy_31 : decode cX4_remedy 31 = .ok (.getfield 54, 3) := by decide +kernel
theorem dX4_remedy_34 : decode cX4_remedy 34 = .ok (.iload_n 1, 1) := by decide +kernel
theorem dX4_remedy_35 : decode cX4_remedy 35 = .ok (.iaload, 1) := by decide +kernel
theorem dX4_remedy_36 : decode cX4_remedy 36 = .ok (.iconst 1, 1) := by decide +kernel
theorem dX4_remedy_37 : decode cX4_remedy 37 = .ok (.if_icmp .ne 12, 3) := by decide +kernel
theorem dX4_remedy_40 : decode cX4_remedy 40 = .ok (.aload_n 0, 1) := by decide +kernel
theorem dX4_remedy_41 : decode cX4_remedy 41 = .ok (.getfield 72, 3) := by decide +kernel
theorem dX4_remedy_44 : decode cX4_remedy 44 = .ok (.iload_n 1, 1) := by decide +kernel
theorem dX4_remedy_45 : decode cX4_remedy 45 = .ok (.iaload, 1) := by decide +kernel
theorem dX4_remedy_46 : decode cX4_remedy 46 = .ok (.ifCond .ne 9, 3) := by decide +kernel
theorem dX4_remedy_49 : decode cX4_remedy 49 = .ok (.aload_n 0, 1) := by decide +kernel
theorem dX4_remedy_50 : decode cX4_remedy 50 = .ok (.iconst 3, 1) := by decide +kernel
theorem dX4_remedy_51 : decode cX4_remedy 51 = .ok (.invokevirtual 99, 3) := by decide +kernel
theorem dX4_remedy_54 : decode cX4_remedy 54 = .ok (.ireturn, 1) := by decide +kernel
theorem dX4_remedy_55 : decode cX4_remedy 55 = .ok (.aload_n 0, 1) := by decide +kernel
theorem dX4_remedy_56 : decode cX4_remedy 56 = .ok (.getfield 51, 3) := by decide +kernel
theorem dX4_remedy_59 : decode cX4_remedy 59 = .ok (.iload_n 1, 1) := by decide +kernel
theorem dX4_remedy_60 : decode cX4_remedy 60 = .ok (.iaload, 1) := by decide +kernel
theorem dX4_remedy_61 : decode cX4_remedy 61 = .ok (.istore_n 3, 1) := by decide +kernel
theorem dX4_remedy_62 : decode cX4_remedy 62 = .ok (.iconst 0, 1) := by decide +kernel
theorem dX4_remedy_63 : decode cX4_remedy 63 = .ok (.istore 4, 2) := by decide +kernel
theorem dX4_remedy_65 : decode cX4_remedy 65 = .ok (.iconst 0, 1) := by decide +kernel
theorem dX4_remedy_66 : decode cX4_remedy 66 = .ok (.istore 5, 2) := by decide +kernel
theorem dX4_remedy_68 : decode cX4_remedy 68 = .ok (.iload 5, 2) := by decide +kernel
theorem dX4_remedy_70 : decode cX4_remedy 70 = .ok (.aload_n 0, 1) := by decide +kernel
theorem dX4_remedy_71 : decode cX4_remedy 71 = .ok (.getfield 86, 3) := by decide +kernel
theorem dX4_remedy_74 : decode cX4_remedy 74 = .ok (.if_icmp .ge 56, 3) := by decide +kernel
theorem dX4_remedy_77 : decode cX4_remedy 77 = .ok (.iload 5, 2) := by decide +kernel
theorem dX4_remedy_79 : decode cX4_remedy 79 = .ok (.iload_n 3, 1) := by decide +kernel
theorem dX4_remedy_80 : decode cX4_remedy 80 = .ok (.if_icmp .eq 22, 3) := by decide +kernel
theorem dX4_remedy_83 : decode cX4_remedy 83 = .ok (.aload_n 0, 1) := by decide +kernel
theorem dX4_remedy_84 : decode cX4_remedy 84 = .ok (.iload_n 3, 1) := by decide +kernel
theorem dX4_remedy_85 : decode cX4_remedy 85 = .ok (.iload 5, 2) := by decide +kernel
theorem dX4_remedy_87 : decode cX4_remedy 87 = .ok (.invokevirtual 139, 3) := by decide +kernel
theorem dX4_remedy_90 : decode cX4_remedy 90 = .ok (.ifCond .eq 34, 3) := by decide +kernel
theorem dX4_remedy_93 : decode cX4_remedy 93 = .ok (.aload_n 0, 1) := by decide +kernel
theorem dX4_remedy_94 : decode cX4_remedy 94 = .ok (.iload 5, 2) := by decide +kernel
theorem dX4_remedy_96 : decode cX4_remedy 96 = .ok (.invokevirtual 151, 3) := by decide +kernel
theorem dX4_remedy_99 : decode cX4_remedy 99 = .ok (.ifCond .le 25, 3) := by decide +kernel
theorem dX4_remedy_102 : decode cX4_remedy 102 = .ok (.aload_n 0, 1) := by decide +kernel
theorem dX4_remedy_103 : decode cX4_remedy 103 = .ok (.getfield 45, 3) := by decide +kernel
theorem dX4_remedy_106 : decode cX4_remedy 106 = .ok (.iload 5, 2) := by decide +kernel
theorem dX4_remedy_108 : decode cX4_remedy 108 = .ok (.iload_n 2, 1) := by decide +kernel
theorem dX4_remedy_109 : decode cX4_remedy 109 = .ok (.aload_n 0, 1) := by decide +kernel
theorem dX4_remedy_110 : decode cX4_remedy 110 = .ok (.getfield 35, 3) := by decide +kernel
theorem dX4_remedy_113 : decode cX4_remedy 113 = .ok (.iload 5, 2) := by decide +kernel
theorem dX4_remedy_115 : decode cX4_remedy 115 = .ok (.iaload, 1) := by decide +kernel
theorem dX4_remedy_116 : decode cX4_remedy 116 = .ok (.imul, 1) := by decide +kernel
theorem dX4_remedy_117 : decode cX4_remedy 117 = .ok (.bipush 100, 2) := by decide +kernel
theorem dX4_remedy_119 : decode cX4_remedy 119 = .ok (.idiv, 1) := by decide +kernel
theorem dX4_remedy_120 : decode cX4_remedy 120 = .ok (.iastore, 1) := by decide +kernel
theorem dX4_remedy_121 : decode cX4_remedy 121 = .ok (.iinc 4 1, 3) := by decide +kernel
theorem dX4_remedy_124 : decode cX4_remedy 124 = .ok (.iinc 5 1, 3) := by decide +kernel
theorem dX4_remedy_127 : decode cX4_remedy 127 = .ok (.goto (-59), 3) := by decide +kernel
theorem dX4_remedy_130 : decode cX4_remedy 130 = .ok (.iload 4, 2) := by decide +kernel
theorem dX4_remedy_132 : decode cX4_remedy 132 = .ok (.ireturn, 1) := by decide +kernel
set_option maxRecDepth 20000 in
theorem ggX4_pass_X4_in : GoodIn wsX4_pass wsX4_in := goodIn_r _ [8] (by decide +kernel) (by decide +kernel)
set_option maxRecDepth 20000 in
theorem gX4_pass_X4_in : GoodIn wsX4_pass (va_wsS RX4 82 yX4_in wsX4_in) := goodIn_app (goodIn_of _ (by decide +kernel)) ggX4_pass_X4_in
set_option maxRecDepth 20000 in
theorem ggX4_pass_X4_asks : GoodIn wsX4_pass wsX4_asks := goodIn_r _ [12, 13, 24, 25, 26, 27, 28, 29, 30, 31, 32, 33, 34, 35, 36, 37, 38, 39, 40, 41, 42, 43, 44, 45, 46, 47, 48, 49, 50] (by decide +kernel) (by decide +kernel)
set_option maxRecDepth 20000 in
theorem gX4_pass_X4_asks : GoodIn wsX4_pass (wsV RX4 92 RX4 yX4_asks wsX4_asks) := goodIn_app (goodIn_of _ (by decide +kernel)) ggX4_pass_X4_asks
set_option maxRecDepth 20000 in
theorem ggX4_pass_X4_fails : GoodIn wsX4_pass wsX4_fails := goodIn_r _ [17, 13, 24, 25, 26, 27, 28, 29, 30, 31, 32, 33, 34, 35, 36, 37, 38, 39, 40, 41, 42, 43, 44, 45, 46, 47, 48, 49, 50] (by decide +kernel) (by decide +kernel)
set_option maxRecDepth 20000 in
theorem gX4_pass_X4_fails : GoodIn wsX4_pass (wsV RX4 99 RX4 yX4_fails wsX4_fails) := goodIn_app (goodIn_of _ (by decide +kernel)) ggX4_pass_X4_fails
set_option maxRecDepth 20000 in
theorem ggX4_pass_X4_isOwed : GoodIn wsX4_pass wsX4_isOwed := goodIn_r _ [21, 22, 23, 24, 25, 26, 27, 28, 29, 30, 31, 32, 33, 34, 35, 36, 37, 38, 39, 40, 41, 42, 43, 44, 45, 46, 47, 48, 49, 50] (by decide +kernel) (by decide +kernel)
set_option maxRecDepth 20000 in
theorem gX4_pass_X4_isOwed : GoodIn wsX4_pass (wsV RX4 136 RX4 yX4_isOwed wsX4_isOwed) := goodIn_app (goodIn_of _ (by decide +kernel)) ggX4_pass_X4_isOwed
theorem dX4_pass_0 : decode cX4_pass 0 = .ok (.aload_n 0, 1) := by decide +kernel
theorem dX4_pass_1 : decode cX4_pass 1 = .ok (.iload_n 1, 1) := by decide +kernel
theorem dX4_pass_2 : decode cX4_pass 2 = .ok (.iconst 1, 1) := by decide +kernel
theorem dX4_pass_3 : decode cX4_pass 3 = .ok (.bipush 100, 2) := by decide +kernel
theorem dX4_pass_5 : decode cX4_pass 5 = .ok (.invokestatic 82, 3) := by decide +kernel
theorem dX4_pass_8 : decode cX4_pass 8 = .ok (.invokevirtual 92, 3) := by decide +kernel
theorem dX4_pass_11 : decode cX4_pass 11 = .ok (.ifCond .ne 5, 3) := by decide +kernel
theorem dX4_pass_14 : decode cX4_pass 14 = .ok (.iconst 0, 1) := by decide +kernel
theorem dX4_pass_15 : decode cX4_pass 15 = .ok (.ireturn, 1) := by decide +kernel
theorem dX4_pass_16 : decode cX4_pass 16 = .ok (.aload_n 0, 1) := by decide +kernel
theorem dX4_pass_17 : decode cX4_pass 17 = .ok (.getfield 107, 3) := by decide +kernel
theorem dX4_pass_20 : decode cX4_pass 20 = .ok (.iload_n 1, 1) := by decide +kernel
theorem dX4_pass_21 : decode cX4_pass 21 = .ok (.iadd, 1) := by decide +kernel
theorem dX4_pass_22 : decode cX4_pass 22 = .ok (.sipush 5000, 3) := by decide +kernel
theorem dX4_pass_25 : decode cX4_pass 25 = .ok (.if_icmp .le 9, 3) := by decide +kernel
theorem dX4_pass_28 : decode cX4_pass 28 = .ok (.aload_n 0, 1) := by decide +kernel
theorem dX4_pass_29 : decode cX4_pass 29 = .ok (.iconst 2, 1) := by decide +kernel
theorem dX4_pass_30 : decode cX4_pass 30 = .ok (.invokevirtual 99, 3) := by decide +kernel
theorem dX4_pass_33 : decode cX4_pass 33 = .ok (.ireturn, 1) := by decide +kernel
theorem dX4_pass_34 : decode cX4_pass 34 = .ok (.iconst 0, 1) := by decide +kernel
theorem dX4_pass_35 : decode cX4_pass 35 = .ok (.istore_n 2, 1) := by decide +kernel
theorem dX4_pass_36 : decode cX4_pass 36 = .ok (.iload_n 2, 1) := by decide +kernel
theorem dX4_pass_37 : decode cX4_pass 37 = .ok (.iload_n 1, 1) := by decide +kernel
theorem dX4_pass_38 : decode cX4_pass 38 = .ok (.if_icmp .ge 82, 3) := by decide +kernel
theorem dX4_pass_41 : decode cX4_pass 41 = .ok (.aload_n 0, 1) := by decide +kernel
theorem dX4_pass_42 : decode cX4_pass 42 = .ok (.dup, 1) := by decide +kernel
theorem dX4_pass_43 : decode cX4_pass 43 = .ok (.getfield 107, 3) := by decide +kernel
theorem dX4_pass_46 : decode cX4_pass 46 = .ok (.iconst 1, 1) := by decide +kernel
theorem dX4_pass_47 : decode cX4_pass 47 = .ok (.iadd, 1) := by decide +kernel
theorem dX4_pass_48 : decode cX4_pass 48 = .ok (.putfield 107, 3) := by decide +kernel
theorem dX4_pass_51 : decode cX4_pass 51 = .ok (.iconst 0, 1) := by decide +kernel
theorem dX4_pass_52 : decode cX4_pass 52 = .ok (.istore_n 3, 1) := by decide +kernel
theorem dX4_pass_53 : decode cX4_pass 53 = .ok (.iload_n 3, 1) := by decide +kernel
theorem dX4_pass_54 : decode cX4_pass 54 = .ok (.aload_n 0, 1) := by decide +kernel
theorem dX4_pass_55 : decode cX4_pass 55 = .ok (.getfield 89, 3) := by decide +kernel
theorem dX4_pass_58 : decode cX4_pass 58 = .ok (.if_icmp .ge 56, 3) := by decide +kernel
theorem dX4_pass_61 : decode cX4_pass 61 = .ok (.aload_n 0, 1) := by decide +kernel
theorem dX4_pass_62 : decode cX4_pass 62 = .ok (.getfield 54, 3) := by decide +kernel
theorem dX4_pass_65 : decode cX4_pass 65 = .ok (.iload_n 3, 1) := by decide +kernel
theorem dX4_pass_66 : decode cX4_pass 66 = .ok (.iaload, 1) := by decide +kernel
theorem dX4_pass_67 : decode cX4_pass 67 = .ok (.ifCond .ne 41, 3) := by decide +kernel
theorem dX4_pass_70 : decode cX4_pass 70 = .ok (.aload_n 0, 1) := by decide +kernel
theorem dX4_pass_71 : decode cX4_pass 71 = .ok (.iload_n 3, 1) := by decide +kernel
theorem dX4_pass_72 : decode cX4_pass 72 = .ok (.invokevirtual 136, 3) := by decide +kernel
theorem dX4_pass_75 : decode cX4_pass 75 = .ok (.ifCond .ne 33, 3) := by decide +kernel
theorem dX4_pass_78 : decode cX4_pass 78 = .ok (.aload_n 0, 1) := by decide +kernel
theorem dX4_pass_79 : decode cX4_pass 79 = .ok (.getfield 57, 3) := by decide +kernel
theorem dX4_pass_82 : decode cX4_pass 82 = .ok (.iload_n 3, 1) := by decide +kernel
theorem dX4_pass_83 : decode cX4_pass 83 = .ok (.dup2, 1) := by decide +kernel
theorem dX4_pass_84 : decode cX4_pass 84 = .ok (.iaload, 1) := by decide +kernel
theorem dX4_pass_85 : decode cX4_pass 85 = .ok (.iconst 1, 1) := by decide +kernel
theorem dX4_pass_86 : decode cX4_pass 86 = .ok (.isub, 1) := by decide +kernel
theorem dX4_pass_87 : decode cX4_pass 87 = .ok (.iastore, 1) := by decide +kernel
theorem dX4_pass_88 : decode cX4_pass 88 = .ok (.aload_n 0, 1) := by decide +kernel
theorem dX4_pass_89 : decode cX4_pass 89 = .ok (.getfield 54, 3) := by decide +kernel
theorem dX4_pass_92 : decode cX4_pass 92 = .ok (.iload_n 3, 1) := by decide +kernel
theorem dX4_pass_93 : decode cX4_pass 93 = .ok (.aload_n 0, 1) := by decide +kernel
theorem dX4_pass_94 : decode cX4_pass 94 = .ok (.getfield 57, 3) := by decide +kernel
theorem dX4_pass_97 : decode cX4_pass 97 = .ok (.iload_n 3, 1) := by decide +kernel
theorem dX4_pass_98 : decode cX4_pass 98 = .ok (.iaload, 1) := by decide +kernel
theorem dX4_pass_99 : decode cX4_pass 99 = .ok (.ifCond .ne 7, 3) := by decide +kernel
theorem dX4_pass_102 : decode cX4_pass 102 = .ok (.iconst 2, 1) := by decide +kernel
theorem dX4_pass_103 : decode cX4_pass 103 = .ok (.goto 4, 3) := by decide +kernel
theorem dX4_pass_106 : decode cX4_pass 106 = .ok (.iconst 0, 1) := by decide +kernel
theorem dX4_pass_107 : decode cX4_pass 107 = .ok (.iastore, 1) := by decide +kernel
theorem dX4_pass_108 : decode cX4_pass 108 = .ok (.iinc 3 1, 3) := by decide +kernel
theorem dX4_pass_111 : decode cX4_pass 111 = .ok (.goto (-58), 3) := by decide +kernel
theorem dX4_pass_114 : decode cX4_pass 114 = .ok (.iinc 2 1, 3) := by decide +kernel
theorem dX4_pass_117 : decode cX4_pass 117 = .ok (.goto (-81), 3) := by decide +kernel
theorem dX4_pass_120 : decode cX4_pass 120 = .ok (.aload_n 0, 1) := by decide +kernel
theorem dX4_pass_121 : decode cX4_pass 121 = .ok (.getfield 107, 3) := by decide +kernel
theorem dX4_pass_124 : decode cX4_pass 124 = .ok (.ireturn, 1) := by decide +kernel
theorem dX4_ones_0 : decode cX4_ones 0 = .ok (.iconst 0, 1) := by decide +kernel
theorem dX4_ones_1 : decode cX4_ones 1 = .ok (.istore_n 1, 1) := by decide +kernel
theorem dX4_ones_2 : decode cX4_ones 2 = .ok (.iconst 0, 1) := by decide +kernel
theorem dX4_ones_3 : decode cX4_ones 3 = .ok (.istore_n 2, 1) := by decide +kernel
theorem dX4_ones_4 : decode cX4_ones 4 = .ok (.iload_n 2, 1) := by decide +kernel
theorem dX4_ones_5 : decode cX4_ones 5 = .ok (.bipush 10, 2) := by decide +kernel
theorem dX4_ones_7 : decode cX4_ones 7 = .ok (.if_icmp .ge 17, 3) := by decide +kernel
theorem dX4_ones_10 : decode cX4_ones 10 = .ok (.iload_n 1, 1) := by decide +kernel
theorem dX4_ones_11 : decode cX4_ones 11 = .ok (.iload_n 0, 1) := by decide +kernel
theorem dX4_ones_12 : decode cX4_ones 12 = .ok (.iload_n 2, 1) := by decide +kernel
theorem dX4_ones_13 : decode cX4_ones 13 = .ok (.ishr, 1) := by decide +kernel
theorem dX4_ones_14 : decode cX4_ones 14 = .ok (.iconst 1, 1) := by decide +kernel
theorem dX4_ones_15 : decode cX4_ones 15 = .ok (.iand, 1) := by decide +kernel
theorem dX4_ones_16 : decode cX4_ones 16 = .ok (.iadd, 1) := by decide +kernel
theorem dX4_ones_17 : decode cX4_ones 17 = .ok (.istore_n 1, 1) := by decide +kernel
theorem dX4_ones_18 : decode cX4_ones 18 = .ok (.iinc 2 1, 3) := by decide +kernel
theorem dX4_ones_21 : decode cX4_ones 21 = .ok (.goto (-17), 3) := by decide +kernel
theorem dX4_ones_24 : decode cX4_ones 24 = .ok (.iload_n 1, 1) := by decide +kernel
theorem dX4_ones_25 : decode cX4_ones 25 = .ok (.ireturn, 1) := by decide +kernel
set_option maxRecDepth 20000 in
theorem ggX4_about_X4_isComplaint : GoodIn wsX4_about wsX4_isComplaint := goodIn_r _ [10, 11, 12, 13, 9, 14, 33, 34, 35, 36, 37, 38, 39, 40, 41, 42, 43, 44, 45, 46, 47, 48, 49, 50, 51, 52, 53, 54, 55, 56, 57, 58, 59] (by decide +kernel) (by decide +kernel)
set_option maxRecDepth 20000 in
theorem gX4_about_X4_isComplaint : GoodIn wsX4_about (wsV RX4 133 RX4 yX4_isComplaint wsX4_isComplaint) := goodIn_app (goodIn_of _ (by decide +kernel)) ggX4_about_X4_isComplaint
set_option maxRecDepth 20000 in
theorem ggX4_about_X4_asks : GoodIn wsX4_about wsX4_asks := goodIn_r _ [18, 19, 33, 34, 35, 36, 37, 38, 39, 40, 41, 42, 43, 44, 45, 46, 47, 48, 49, 50, 51, 52, 53, 54, 55, 56, 57, 58, 59] (by decide +kernel) (by decide +kernel)
set_option maxRecDepth 20000 in
theorem gX4_about_X4_asks : GoodIn wsX4_about (wsV RX4 92 RX4 yX4_asks wsX4_asks) := goodIn_app (goodIn_of _ (by decide +kernel)) ggX4_about_X4_asks
set_option maxRecDepth 20000 in
theorem ggX4_about_X4_ones : GoodIn wsX4_about wsX4_ones := goodIn_r _ [22] (by decide +kernel) (by decide +kernel)
set_option maxRecDepth 20000 in
theorem gX4_about_X4_ones : GoodIn wsX4_about (va_wsS RX4 154 yX4_ones wsX4_ones) := goodIn_app (goodIn_of _ (by decide +kernel)) ggX4_about_X4_ones
set_option maxRecDepth 20000 in
theorem ggX4_about_X4_isOwed : GoodIn wsX4_about wsX4_isOwed := goodIn_r _ [26, 27, 28, 33, 34, 35, 36, 37, 38, 39, 40, 41, 42, 43, 44, 45, 46, 47, 48, 49, 50, 51, 52, 53, 54, 55, 56, 57, 58, 59] (by decide +kernel) (by decide +kernel)
set_option maxRecDepth 20000 in
theorem gX4_about_X4_isOwed : GoodIn wsX4_about (wsV RX4 136 RX4 yX4_isOwed wsX4_isOwed) := goodIn_app (goodIn_of _ (by decide +kernel)) ggX4_about_X4_isOwed
set_option maxRecDepth 20000 in
theorem ggX4_about_X4_fails : GoodIn wsX4_about wsX4_fails := goodIn_r _ [32, 19, 33, 34, 35, 36, 37, 38, 39, 40, 41, 42, 43, 44, 45, 46, 47, 48, 49, 50, 51, 52, 53, 54, 55, 56, 57, 58, 59] (by decide +kernel) (by decide +kernel)
set_option maxRecDepth 20000 in
theorem gX4_about_X4_fails : GoodIn wsX4_about (wsV RX4 99 RX4 yX4_fails wsX4_fails) := goodIn_app (goodIn_of _ (by decide +kernel)) ggX4_about_X4_fails
theorem dX4_about_0 : decode cX4_about 0 = .ok (.aload_n 0, 1) := by decide +kernel
theorem dX4_about_1 : decode cX4_about 1 = .ok (.aload_n 0, 1) := by decide +kernel
theorem dX4_about_2 : decode cX4_about 2 = .ok (.iload_n 1, 1) := by decide +kernel
theorem dX4_about_3 : decode cX4_about 3 = .ok (.invokevirtual 133, 3) := by decide +kernel
theorem dX4_about_6 : decode cX4_about 6 = .ok (.invokevirtual 92, 3) := by decide +kernel
theorem dX4_about_9 : decode cX4_about 9 = .ok (.ifCond .ne 5, 3) := by decide +kernel
theorem dX4_about_12 : decode cX4_about 12 = .ok (.iconst 0, 1) := by decide +kernel
theorem dX4_about_13 : decode cX4_about 13 = .ok (.ireturn, 1) := by decide +kernel
theorem dX4_about_14 : decode cX4_about 14 = .ok (.iload_n 2, 1) := by decide +kernel
theorem dX4_about_15 : decode cX4_about 15 = .ok (.tableswitch 89 0 5 #[37, 44, 51, 58, 68, 82], 37) := by decide +kernel
theorem dX4_about_52 : decode cX4_about 52 = .ok (.aload_n 0, 1) := by decide +kernel
theorem dX4_about_53 : decode cX4_about 53 = .ok (.getfield 54, 3) := by decide +kernel
theorem dX4_about_56 : decode cX4_about 56 = .ok (.iload_n 1, 1) := by decide +kernel
theorem dX4_about_57 : decode cX4_about 57 = .ok (.iaload, 1) := by decide +kernel
theorem dX4_about_58 : decode cX4_about 58 = .ok (.ireturn, 1) := by decide +kernel
theorem dX4_about_59 : decode cX4_about 59 = .ok (.aload_n 0, 1) := by decide +kernel
theorem dX4_about_60 : decode cX4_about 60 = .ok (.getfield 51, 3) := by decide +kernel
theorem dX4_about_63 : decode cX4_about 63 = .ok (.iload_n 1, 1) := by decide +kernel
theorem dX4_about_64 : decode cX4_about 64 = .ok (.iaload, 1) := by decide +kernel
theorem dX4_about_65 : decode cX4_about 65 = .ok (.ireturn, 1) := by decide +kernel
theorem dX4_about_66 : decode cX4_about 66 = .ok (.aload_n 0, 1) := by decide +kernel
theorem dX4_about_67 : decode cX4_about 67 = .ok (.getfield 57, 3) := by decide +kernel
theorem dX4_about_70 : decode cX4_about 70 = .ok (.iload_n 1, 1) := by decide +kernel
theorem dX4_about_71 : decode cX4_about 71 = .ok (.iaload, 1) := by decide +kernel
theorem dX4_about_72 : decode cX4_about 72 = .ok (.ireturn, 1) := by decide +kernel
theorem dX4_about_73 : decode cX4_about 73 = .ok (.aload_n 0, 1) := by decide +kernel
theorem dX4_about_74 : decode cX4_about 74 = .ok (.getfield 60, 3) := by decide +kernel
theorem dX4_about_77 : decode cX4_about 77 = .ok (.iload_n 1, 1) := by decide +kernel
theorem dX4_about_78 : decode cX4_about 78 = .ok (.iaload, 1) := by decide +kernel
theorem dX4_about_79 : decode cX4_about 79 = .ok (.invokestatic 154, 3) := by decide +kernel
theorem dX4_about_82 : decode cX4_about 82 = .ok (.ireturn, 1) := by decide +kernel
theorem dX4_about_83 : decode cX4_about 83 = .ok (.aload_n 0, 1) := by decide +kernel
theorem dX4_about_84 : decode cX4_about 84 = .ok (.iload_n 1, 1) := by decide +kernel
theorem dX4_about_85 : decode cX4_about 85 = .ok (.invokevirtual 136, 3) := by decide +kernel
theorem dX4_about_88 : decode cX4_about 88 = .ok (.ifCond .eq 7, 3) := by decide +kernel
theorem dX4_about_91 : decode cX4_about 91 = .ok (.iconst 1, 1) := by decide +kernel
theorem dX4_about_92 : decode cX4_about 92 = .ok (.goto 4, 3) := by decide +kernel
theorem dX4_about_95 : decode cX4_about 95 = .ok (.iconst 0, 1) := by decide +kernel
theorem dX4_about_96 : decode cX4_about 96 = .ok (.ireturn, 1) := by decide +kernel
theorem dX4_about_97 : decode cX4_about 97 = .ok (.aload_n 0, 1) := by decide +kernel
theorem dX4_about_98 : decode cX4_about 98 = .ok (.getfield 72, 3) := by decide +kernel
theorem dX4_about_101 : decode cX4_about 101 = .ok (.iload_n 1, 1) := by decide +kernel
theorem dX4_about_102 : decode cX4_about 102 = .ok (.iaload, 1) := by decide +kernel
theorem dX4_about_103 : decode cX4_about 103 = .ok (.ireturn, 1) := by decide +kernel
theorem dX4_about_104 : decode cX4_about 104 = .ok (.aload_n 0, 1) := by decide +kernel
theorem dX4_about_105 : decode cX4_about 105 = .ok (.iconst 2, 1) := by decide +kernel
theorem dX4_about_106 : decode cX4_about 106 = .ok (.invokevirtual 99, 3) := by decide +kernel
theorem dX4_about_109 : decode cX4_about 109 = .ok (.ireturn, 1) := by decide +kernel
set_option maxRecDepth 20000 in
theorem ggX4_reminder_X4_isComplaint : GoodIn wsX4_reminder wsX4_isComplaint := goodIn_r _ [10, 11, 12, 13, 9, 14, 25, 26, 27, 28, 29, 30, 31, 32, 33, 34, 35, 36, 37, 38, 39, 40, 41, 42, 43, 44, 45, 46, 47, 48, 49, 50, 51] (by decide +kernel) (by decide +kernel)
set_option maxRecDepth 20000 in
theorem gX4_reminder_X4_isComplaint : GoodIn wsX4_reminder (wsV RX4 133 RX4 yX4_isComplaint wsX4_isComplaint) := goodIn_app (goodIn_of _ (by decide +kernel)) ggX4_reminder_X4_isComplaint
set_option maxRecDepth 20000 in
theorem ggX4_reminder_X4_asks : GoodIn wsX4_reminder wsX4_asks := goodIn_r _ [18, 19, 25, 26, 27, 28, 29, 30, 31, 32, 33, 34, 35, 36, 37, 38, 39, 40, 41, 42, 43, 44, 45, 46, 47, 48, 49, 50, 51] (by decide +kernel) (by decide +kernel)
set_option maxRecDepth 20000 in
theorem gX4_reminder_X4_asks : GoodIn wsX4_reminder (wsV RX4 92 RX4 yX4_asks wsX4_asks) := goodIn_app (goodIn_of _ (by decide +kernel)) ggX4_reminder_X4_asks
set_option maxRecDepth 20000 in
theorem ggX4_reminder_X4_isOwed : GoodIn wsX4_reminder wsX4_isOwed := goodIn_r _ [23, 4, 24, 25, 26, 27, 28, 29, 30, 31, 32, 33, 34, 35, 36, 37, 38, 39, 40, 41, 42, 43, 44, 45, 46, 47, 48, 49, 50, 51] (by decide +kernel) (by decide +kernel)
set_option maxRecDepth 20000 in
theorem gX4_reminder_X4_isOwed : GoodIn wsX4_reminder (wsV RX4 136 RX4 yX4_isOwed wsX4_isOwed) := goodIn_app (goodIn_of _ (by decide +kernel)) ggX4_reminder_X4_isOwed
theorem dX4_reminder_0 : decode cX4_reminder 0 = .ok (.aload_n 0, 1) := by decide +kernel
theorem dX4_reminder_1 : decode cX4_reminder 1 = .ok (.aload_n 0, 1) := by decide +kernel
theorem dX4_reminder_2 : decode cX4_reminder 2 = .ok (.iload_n 1, 1) := by decide +kernel
theorem dX4_reminder_3 : decode cX4_reminder 3 = .ok (.invokevirtual 133, 3) := by decide +kernel
theorem dX4_reminder_6 : decode cX4_reminder 6 = .ok (.invokevirtual 92, 3) := by decide +kernel
theorem dX4_reminder_9 : decode cX4_reminder 9 = .ok (.ifCond .ne 5, 3) := by decide +kernel
theorem dX4_reminder_12 : decode cX4_reminder 12 = .ok (.iconst 0, 1) := by decide +kernel
theorem dX4_reminder_13 : decode cX4_reminder 13 = .ok (.ireturn, 1) := by decide +kernel
theorem dX4_reminder_14 : decode cX4_reminder 14 = .ok (.aload_n 0, 1) := by decide +kernel
theorem dX4_reminder_15 : decode cX4_reminder 15 = .ok (.iload_n 1, 1) := by decide +kernel
theorem dX4_reminder_16 : decode cX4_reminder 16 = .ok (.invokevirtual 136, 3) := by decide +kernel
theorem dX4_reminder_19 : decode cX4_reminder 19 = .ok (.ifCond .ne 5, 3) := by decide +kernel
theorem dX4_reminder_22 : decode cX4_reminder 22 = .ok (.iconst (-1), 1) := by decide +kernel
theorem dX4_reminder_23 : decode cX4_reminder 23 = .ok (.ireturn, 1) := by decide +kernel
theorem dX4_reminder_24 : decode cX4_reminder 24 = .ok (.aload_n 0, 1) := by decide +kernel
theorem dX4_reminder_25 : decode cX4_reminder 25 = .ok (.getfield 23, 3) := by decide +kernel
theorem dX4_reminder_28 : decode cX4_reminder 28 = .ok (.aload_n 0, 1) := by decide +kernel
theorem dX4_reminder_29 : decode cX4_reminder 29 = .ok (.getfield 51, 3) := by decide +kernel
theorem dX4_reminder_32 : decode cX4_reminder 32 = .ok (.iload_n 1, 1) := by decide +kernel
theorem dX4_reminder_33 : decode cX4_reminder 33 = .ok (.iaload, 1) := by decide +kernel
theorem dX4_reminder_34 : decode cX4_reminder 34 = .ok (.iaload, 1) := by decide +kernel
theorem dX4_reminder_35 : decode cX4_reminder 35 = .ok (.istore_n 2, 1) := by decide +kernel
theorem dX4_reminder_36 : decode cX4_reminder 36 = .ok (.aload_n 0, 1) := by decide +kernel
theorem dX4_reminder_37 : decode cX4_reminder 37 = .ok (.getfield 107, 3) := by decide +kernel
theorem dX4_reminder_40 : decode cX4_reminder 40 = .ok (.aload_n 0, 1) := by decide +kernel
theorem dX4_reminder_41 : decode cX4_reminder 41 = .ok (.getfield 63, 3) := by decide +kernel
theorem dX4_reminder_44 : decode cX4_reminder 44 = .ok (.iload_n 1, 1) := by decide +kernel
theorem dX4_reminder_45 : decode cX4_reminder 45 = .ok (.iaload, 1) := by decide +kernel
theorem dX4_reminder_46 : decode cX4_reminder 46 = .ok (.isub, 1) := by decide +kernel
theorem dX4_reminder_47 : decode cX4_reminder 47 = .ok (.bipush 10, 2) := by decide +kernel
theorem dX4_reminder_49 : decode cX4_reminder 49 = .ok (.idiv, 1) := by decide +kernel
theorem dX4_reminder_50 : decode cX4_reminder 50 = .ok (.istore_n 3, 1) := by decide +kernel
theorem dX4_reminder_51 : decode cX4_reminder 51 = .ok (.iconst 0, 1) := by decide +kernel
theorem dX4_reminder_52 : decode cX4_reminder 52 = .ok (.istore 4, 2) := by decide +kernel
theorem dX4_reminder_54 : decode cX4_reminder 54 = .ok (.iload 4, 2) := by decide +kernel
theorem dX4_reminder_56 : decode cX4_reminder 56 = .ok (.iload_n 3, 1) := by decide +kernel
theorem dX4_reminder_57 : decode cX4_reminder 57 = .ok (.if_icmp .ge 26, 3) := by decide +kernel
theorem dX4_reminder_60 : decode cX4_reminder 60 = .ok (.aload_n 0, 1) := by decide +kernel
theorem dX4_reminder_61 : decode cX4_reminder 61 = .ok (.getfield 13, 3) := by decide +kernel
theorem dX4_reminder_64 : decode cX4_reminder 64 = .ok (.iload_n 2, 1) := by decide +kernel
theorem dX4_reminder_65 : decode cX4_reminder 65 = .ok (.iaload, 1) := by decide +kernel
theorem dX4_reminder_66 : decode cX4_reminder 66 = .ok (.iconst (-1), 1) := by decide +kernel
theorem dX4_reminder_67 : decode cX4_reminder 67 = .ok (.if_icmp .eq 16, 3) := by decide +kernel
theorem dX4_reminder_70 : decode cX4_reminder 70 = .ok (.aload_n 0, 1) := by decide +kernel
theorem dX4_reminder_71 : decode cX4_reminder 71 = .ok (.getfield 13, 3) := by decide +kernel
theorem dX4_reminder_74 : decode cX4_reminder 74 = .ok (.iload_n 2, 1) := by decide +kernel
theorem dX4_reminder_75 : decode cX4_reminder 75 = .ok (.iaload, 1) := by decide +kernel
theorem dX4_reminder_76 : decode cX4_reminder 76 = .ok (.istore_n 2, 1) := by decide +kernel
theorem dX4_reminder_77 : decode cX4_reminder 77 = .ok (.iinc 4 1, 3) := by decide +kernel
theorem dX4_reminder_80 : decode cX4_reminder 80 = .ok (.goto (-26), 3) := by decide +kernel
theorem dX4_reminder_83 : decode cX4_reminder 83 = .ok (.iload_n 2, 1) := by decide +kernel
theorem dX4_reminder_84 : decode cX4_reminder 84 = .ok (.ireturn, 1) := by decide +kernel
set_option maxRecDepth 20000 in
theorem ggX4_fault_X4_isAct : GoodIn wsX4_fault wsX4_isAct := goodIn_r _ [5, 6, 7, 8, 4, 9, 40, 41, 42, 43, 44, 45, 46, 47, 48, 49, 50, 51, 52, 53, 54, 55, 56, 57, 58, 59, 60, 61, 62, 63, 64, 65, 66] (by decide +kernel) (by decide +kernel)
set_option maxRecDepth 20000 in
theorem gX4_fault_X4_isAct : GoodIn wsX4_fault (wsV RX4 120 RX4 yX4_isAct wsX4_isAct) := goodIn_app (goodIn_of _ (by decide +kernel)) ggX4_fault_X4_isAct
set_option maxRecDepth 20000 in
theorem ggX4_fault_X4_asks : GoodIn wsX4_fault wsX4_asks := goodIn_r _ [13, 14, 40, 41, 42, 43, 44, 45, 46, 47, 48, 49, 50, 51, 52, 53, 54, 55, 56, 57, 58, 59, 60, 61, 62, 63, 64, 65, 66] (by decide +kernel) (by decide +kernel)
set_option maxRecDepth 20000 in
theorem gX4_fault_X4_asks : GoodIn wsX4_fault (wsV RX4 92 RX4 yX4_asks wsX4_asks) := goodIn_app (goodIn_of _ (by decide +kernel)) ggX4_fault_X4_asks
set_option maxRecDepth 20000 in
theorem ggX4_fault_X4_faultOf : GoodIn wsX4_fault wsX4_faultOf := goodIn_r _ [18, 19, 20, 21, 4, 22, 23, 24, 25, 26, 27, 28, 29, 30, 6, 31, 32, 33, 34, 35, 36, 37, 38, 39, 40, 41, 42, 43, 44, 45, 46, 47, 48, 49, 50, 51, 52, 53, 54, 55, 56, 57, 58, 59, 60, 61, 62, 63, 64, 65, 66] (by decide +kernel) (by decide +kernel)
set_option maxRecDepth 20000 in
theorem gX4_fault_X4_faultOf : GoodIn wsX4_fault (wsV RX4 151 RX4 yX4_faultOf wsX4_faultOf) := goodIn_app (goodIn_of _ (by decide +kernel)) ggX4_fault_X4_faultOf
theorem dX4_fault_0 : decode cX4_fault 0 = .ok (.aload_n 0, 1) := by decide +kernel
theorem dX4_fault_1 : decode cX4_fault 1 = .ok (.aload_n 0, 1) := by decide +kernel
theorem dX4_fault_2 : decode cX4_fault 2 = .ok (.iload_n 1, 1) := by decide +kernel
theorem dX4_fault_3 : decode cX4_fault 3 = .ok (.invokevirtual 120, 3) := by decide +kernel
theorem dX4_fault_6 : decode cX4_fault 6 = .ok (.invokevirtual 92, 3) := by decide +kernel
theorem dX4_fault_9 : decode cX4_fault 9 = .ok (.ifCond .eq 11, 3) := by decide +kernel
theorem dX4_fault_12 : decode cX4_fault 12 = .ok (.aload_n 0, 1) := by decide +kernel
theorem dX4_fault_13 : decode cX4_fault 13 = .ok (.iload_n 1, 1) := by decide +kernel
theorem dX4_fault_14 : decode cX4_fault 14 = .ok (.invokevirtual 151, 3) := by decide +kernel
theorem dX4_fault_17 : decode cX4_fault 17 = .ok (.goto 4, 3) := by decide +kernel
theorem dX4_fault_20 : decode cX4_fault 20 = .ok (.iconst 0, 1) := by decide +kernel
theorem dX4_fault_21 : decode cX4_fault 21 = .ok (.ireturn, 1) := by decide +kernel
set_option maxRecDepth 20000 in
theorem ggX4_likes_X4_isAct : GoodIn wsX4_likes wsX4_isAct := goodIn_r _ [5, 6, 7, 8, 4, 9, 25, 26, 27, 28, 29, 30, 31, 32, 33, 34, 35, 36, 37, 38, 39, 40, 41, 42, 43, 44, 45, 46, 47, 48, 49, 50, 51] (by decide +kernel) (by decide +kernel)
set_option maxRecDepth 20000 in
theorem gX4_likes_X4_isAct : GoodIn wsX4_likes (wsV RX4 120 RX4 yX4_isAct wsX4_isAct) := goodIn_app (goodIn_of _ (by decide +kernel)) ggX4_likes_X4_isAct
set_option maxRecDepth 20000 in
theorem ggX4_likes_X4_asks : GoodIn wsX4_likes wsX4_asks := goodIn_r _ [13, 14, 25, 26, 27, 28, 29, 30, 31, 32, 33, 34, 35, 36, 37, 38, 39, 40, 41, 42, 43, 44, 45, 46, 47, 48, 49, 50, 51] (by decide +kernel) (by decide +kernel)
set_option maxRecDepth 20000 in
theorem gX4_likes_X4_asks : GoodIn wsX4_likes (wsV RX4 92 RX4 yX4_asks wsX4_asks) := goodIn_app (goodIn_of _ (by decide +kernel)) ggX4_likes_X4_asks
set_option maxRecDepth 20000 in
theorem ggX4_likes_X4_likesOf : GoodIn wsX4_likes wsX4_likesOf := goodIn_r _ [18, 6, 19, 20, 21, 4, 22, 23, 24, 25, 26, 27, 28, 29, 30, 31, 32, 33, 34, 35, 36, 37, 38, 39, 40, 41, 42, 43, 44, 45, 46, 47, 48, 49, 50, 51] (by decide +kernel) (by decide +kernel)
set_option maxRecDepth 20000 in
theorem gX4_likes_X4_likesOf : GoodIn wsX4_likes (wsV RX4 142 RX4 yX4_likesOf wsX4_likesOf) := goodIn_app (goodIn_of _ (by decide +kernel)) ggX4_likes_X4_likesOf
theorem dX4_likes_0 : decode cX4_likes 0 = .ok (.aload_n 0, 1) := by decide +kernel
theorem dX4_likes_1 : decode cX4_likes 1 = .ok (.aload_n 0, 1) := by decide +kernel
theorem dX4_likes_2 : decode cX4_likes 2 = .ok (.iload_n 1, 1) := by decide +kernel
theorem dX4_likes_3 : decode cX4_likes 3 = .ok (.invokevirtual 120, 3) := by decide +kernel
theorem dX4_likes_6 : decode cX4_likes 6 = .ok (.invokevirtual 92, 3) := by decide +kernel
theorem dX4_likes_9 : decode cX4_likes 9 = .ok (.ifCond .eq 11, 3) := by decide +kernel
theorem dX4_likes_12 : decode cX4_likes 12 = .ok (.aload_n 0, 1) := by decide +kernel
theorem dX4_likes_13 : decode cX4_likes 13 = .ok (.iload_n 1, 1) := by decide +kernel
theorem dX4_likes_14 : decode cX4_likes 14 = .ok (.invokevirtual 142, 3) := by decide +kernel
theorem dX4_likes_17 : decode cX4_likes 17 = .ok (.goto 4, 3) := by decide +kernel
theorem dX4_likes_20 : decode cX4_likes 20 = .ok (.iconst 0, 1) := by decide +kernel
theorem dX4_likes_21 : decode cX4_likes 21 = .ok (.ireturn, 1) := by decide +kernel
set_option maxRecDepth 20000 in
theorem ggX4_remedied_X4_isAct : GoodIn wsX4_remedied wsX4_isAct := goodIn_r _ [6, 7, 8, 9, 5, 10, 16, 17, 18, 19, 20, 21, 22, 23, 24, 25, 26, 27, 28, 29, 30, 31, 32, 33, 34, 35, 36, 37, 38, 39, 40, 41, 42] (by decide +kernel) (by decide +kernel)
set_option maxRecDepth 20000 in
theorem gX4_remedied_X4_isAct : GoodIn wsX4_remedied (wsV RX4 120 RX4 yX4_isAct wsX4_isAct) := goodIn_app (goodIn_of _ (by decide +kernel)) ggX4_remedied_X4_isAct
set_option maxRecDepth 20000 in
theorem ggX4_remedied_X4_asks : GoodIn wsX4_remedied wsX4_asks := goodIn_r _ [14, 15, 16, 17, 18, 19, 20, 21, 22, 23, 24, 25, 26, 27, 28, 29, 30, 31, 32, 33, 34, 35, 36, 37, 38, 39, 40, 41, 42] (by decide +kernel) (by decide +kernel)
set_option maxRecDepth 20000 in
theorem gX4_remedied_X4_asks : GoodIn wsX4_remedied (wsV RX4 92 RX4 yX4_asks wsX4_asks) := goodIn_app (goodIn_of _ (by decide +kernel)) ggX4_remedied_X4_asks
theorem dX4_remedied_0 : decode cX4_remedied 0 = .ok (.aload_n 0, 1) := by decide +kernel
theorem dX4_remedied_1 : decode cX4_remedied 1 = .ok (.aload_n 0, 1) := by decide +kernel
theorem dX4_remedied_2 : decode cX4_remedied 2 = .ok (.iload_n 1, 1) := by decide +kernel
theorem dX4_remedied_3 : decode cX4_remedied 3 = .ok (.invokevirtual 120, 3) := by decide +kernel
theorem dX4_remedied_6 : decode cX4_remedied 6 = .ok (.invokevirtual 92, 3) := by decide +kernel
theorem dX4_remedied_9 : decode cX4_remedied 9 = .ok (.ifCond .eq 12, 3) := by decide +kernel
theorem dX4_remedied_12 : decode cX4_remedied 12 = .ok (.aload_n 0, 1) := by decide +kernel
theorem dX4_remedied_13 : decode cX4_remedied 13 = .ok (.getfield 45, 3) := by decide +kernel
theorem dX4_remedied_16 : decode cX4_remedied 16 = .ok (.iload_n 1, 1) := by decide +kernel
theorem dX4_remedied_17 : decode cX4_remedied 17 = .ok (.iaload, 1) := by decide +kernel
theorem dX4_remedied_18 : decode cX4_remedied 18 = .ok (.goto 4, 3) := by decide +kernel
theorem dX4_remedied_21 : decode cX4_remedied 21 = .ok (.iconst 0, 1) := by decide +kernel
theorem dX4_remedied_22 : decode cX4_remedied 22 = .ok (.ireturn, 1) := by decide +kernel
set_option maxRecDepth 20000 in
theorem ggX4_gains_X4_isKind : GoodIn wsX4_gains wsX4_isKind := goodIn_r _ [7, 8, 9, 6, 10] (by decide +kernel) (by decide +kernel)
set_option maxRecDepth 20000 in
theorem gX4_gains_X4_isKind : GoodIn wsX4_gains (va_wsS RX4 114 yX4_isKind wsX4_isKind) := goodIn_app (goodIn_of _ (by decide +kernel)) ggX4_gains_X4_isKind
set_option maxRecDepth 20000 in
theorem ggX4_gains_X4_asks : GoodIn wsX4_gains wsX4_asks := goodIn_r _ [14, 15, 26, 27, 28, 29, 30, 31, 32, 33, 34, 35, 36, 37, 38, 39, 40, 41, 42, 43, 44, 45, 46, 47, 48, 49, 50, 51, 52] (by decide +kernel) (by decide +kernel)
set_option maxRecDepth 20000 in
theorem gX4_gains_X4_asks : GoodIn wsX4_gains (wsV RX4 92 RX4 yX4_asks wsX4_asks) := goodIn_app (goodIn_of _ (by decide +kernel)) ggX4_gains_X4_asks
set_option maxRecDepth 20000 in
theorem ggX4_gains_X4_in : GoodIn wsX4_gains wsX4_in := goodIn_r _ [10] (by decide +kernel) (by decide +kernel)
set_option maxRecDepth 20000 in
theorem gX4_gains_X4_in : GoodIn wsX4_gains (va_wsS RX4 82 yX4_in wsX4_in) := goodIn_app (goodIn_of _ (by decide +kernel)) ggX4_gains_X4_in
set_option maxRecDepth 20000 in
theorem ggX4_gains_X4_fails : GoodIn wsX4_gains wsX4_fails := goodIn_r _ [19, 15, 26, 27, 28, 29, 30, 31, 32, 33, 34, 35, 36, 37, 38, 39, 40, 41, 42, 43, 44, 45, 46, 47, 48, 49, 50, 51, 52] (by decide +kernel) (by decide +kernel)
set_option maxRecDepth 20000 in
theorem gX4_gains_X4_fails : GoodIn wsX4_gains (wsV RX4 99 RX4 yX4_fails wsX4_fails) := goodIn_app (goodIn_of _ (by decide +kernel)) ggX4_gains_X4_fails
set_option maxRecDepth 20000 in
theorem ggX4_gains_X4_doesFail : GoodIn wsX4_gains wsX4_doesFail := goodIn_r _ [23, 2, 24, 3, 25, 26, 27, 28, 29, 30, 31, 32, 33, 34, 35, 36, 37, 38, 39, 40, 41, 42, 43, 44, 45, 46, 47, 48, 49, 50, 51, 52] (by decide +kernel) (by decide +kernel)
set_option maxRecDepth 20000 in
theorem gX4_gains_X4_doesFail : GoodIn wsX4_gains (wsV RX4 145 RX4 yX4_doesFail wsX4_doesFail) := goodIn_app (goodIn_of _ (by decide +kernel)) ggX4_gains_X4_doesFail
theorem dX4_gains_0 : decode cX4_gains 0 = .ok (.aload_n 0, 1) := by decide +kernel
theorem dX4_gains_1 : decode cX4_gains 1 = .ok (.iload_n 1, 1) := by decide +kernel
theorem dX4_gains_2 : decode cX4_gains 2 = .ok (.invokestatic 114, 3) := by decide +kernel
theorem dX4_gains_5 : decode cX4_gains 5 = .ok (.invokevirtual 92, 3) := by decide +kernel
theorem dX4_gains_8 : decode cX4_gains 8 = .ok (.ifCond .ne 5, 3) := by decide +kernel
theorem dX4_gains_11 : decode cX4_gains 11 = .ok (.iconst 0, 1) := by decide +kernel
theorem dX4_gains_12 : decode cX4_gains 12 = .ok (.ireturn, 1) := by decide +kernel
theorem dX4_gains_13 : decode cX4_gains 13 = .ok (.iload_n 2, 1) := by decide +kernel
theorem dX4_gains_14 : decode cX4_gains 14 = .ok (.iconst 0, 1) := by decide +kernel
theorem dX4_gains_15 : decode cX4_gains 15 = .ok (.bipush 100, 2) := by decide +kernel
theorem dX4_gains_17 : decode cX4_gains 17 = .ok (.invokestatic 82, 3) := by decide +kernel
theorem dX4_gains_20 : decode cX4_gains 20 = .ok (.ifCond .ne 9, 3) := by decide +kernel
theorem dX4_gains_23 : decode cX4_gains 23 = .ok (.aload_n 0, 1) := by decide +kernel
theorem dX4_gains_24 : decode cX4_gains 24 = .ok (.iconst 2, 1) := by decide +kernel
theorem dX4_gains_25 : decode cX4_gains 25 = .ok (.invokevirtual 99, 3) := by decide +kernel
theorem dX4_gains_28 : decode cX4_gains 28 = .ok (.ireturn, 1) := by decide +kernel
theorem dX4_gains_29 : decode cX4_gains 29 = .ok (.iconst 0, 1) := by decide +kernel
theorem dX4_gains_30 : decode cX4_gains 30 = .ok (.istore_n 3, 1) := by decide +kernel
theorem dX4_gains_31 : decode cX4_gains 31 = .ok (.iconst 0, 1) := by decide +kernel
theorem dX4_gains_32 : decode cX4_gains 32 = .ok (.istore 4, 2) := by decide +kernel
theorem dX4_gains_34 : decode cX4_gains 34 = .ok (.iload 4, 2) := by decide +kernel
theorem dX4_gains_36 : decode cX4_gains 36 = .ok (.aload_n 0, 1) := by decide +kernel
theorem dX4_gains_37 : decode cX4_gains 37 = .ok (.getfield 86, 3) := by decide +kernel
theorem dX4_gains_40 : decode cX4_gains 40 = .ok (.if_icmp .ge 70, 3) := by decide +kernel
theorem dX4_gains_43 : decode cX4_gains 43 = .ok (.aload_n 0, 1) := by decide +kernel
theorem dX4_gains_44 : decode cX4_gains 44 = .ok (.getfield 32, 3) := by decide +kernel
theorem dX4_gains_47 : decode cX4_gains 47 = .ok (.iload 4, 2) := by decide +kernel
theorem dX4_gains_49 : decode cX4_gains 49 = .ok (.iaload, 1) := by decide +kernel
theorem dX4_gains_50 : decode cX4_gains 50 = .ok (.iload_n 2, 1) := by decide +kernel
theorem dX4_gains_51 : decode cX4_gains 51 = .ok (.if_icmp .le 7, 3) := by decide +kernel
theorem dX4_gains_54 : decode cX4_gains 54 = .ok (.iconst 1, 1) := by decide +kernel
theorem dX4_gains_55 : decode cX4_gains 55 = .ok (.goto 4, 3) := by decide +kernel
theorem dX4_gains_58 : decode cX4_gains 58 = .ok (.iconst 0, 1) := by decide +kernel
theorem dX4_gains_59 : decode cX4_gains 59 = .ok (.istore 5, 2) := by decide +kernel
theorem dX4_gains_61 : decode cX4_gains 61 = .ok (.aload_n 0, 1) := by decide +kernel
theorem dX4_gains_62 : decode cX4_gains 62 = .ok (.iload 4, 2) := by decide +kernel
theorem dX4_gains_64 : decode cX4_gains 64 = .ok (.invokevirtual 145, 3) := by decide +kernel
theorem dX4_gains_67 : decode cX4_gains 67 = .ok (.istore 6, 2) := by decide +kernel
theorem dX4_gains_69 : decode cX4_gains 69 = .ok (.iload_n 3, 1) := by decide +kernel
theorem dX4_gains_70 : decode cX4_gains 70 = .ok (.aload_n 0, 1) := by decide +kernel
theorem dX4_gains_71 : decode cX4_gains 71 = .ok (.getfield 26, 3) := by decide +kernel
theorem dX4_gains_74 : decode cX4_gains 74 = .ok (.iload 4, 2) := by decide +kernel
theorem dX4_gains_76 : decode cX4_gains 76 = .ok (.iaload, 1) := by decide +kernel
theorem dX4_gains_77 : decode cX4_gains 77 = .ok (.iload_n 1, 1) := by decide +kernel
theorem dX4_gains_78 : decode cX4_gains 78 = .ok (.if_icmp .ne 10, 3) := by decide +kernel
theorem dX4_gains_81 : decode cX4_gains 81 = .ok (.iload 5, 2) := by decide +kernel
theorem dX4_gains_83 : decode cX4_gains 83 = .ok (.iload 6, 2) := by decide +kernel
theorem dX4_gains_85 : decode cX4_gains 85 = .ok (.if_icmp .ne 7, 3) := by decide +kernel
theorem dX4_gains_88 : decode cX4_gains 88 = .ok (.iconst 0, 1) := by decide +kernel
theorem dX4_gains_89 : decode cX4_gains 89 = .ok (.goto 13, 3) := by decide +kernel
theorem dX4_gains_92 : decode cX4_gains 92 = .ok (.iload 5, 2) := by decide +kernel
theorem dX4_gains_94 : decode cX4_gains 94 = .ok (.ifCond .eq 7, 3) := by decide +kernel
theorem dX4_gains_97 : decode cX4_gains 97 = .ok (.iconst 1, 1) := by decide +kernel
theorem dX4_gains_98 : decode cX4_gains 98 = .ok (.goto 4, 3) := by decide +kernel
theorem dX4_gains_101 : decode cX4_gains 101 = .ok (.iconst (-1), 1) := by decide +kernel
theorem dX4_gains_102 : decode cX4_gains 102 = .ok (.iadd, 1) := by decide +kernel
theorem dX4_gains_103 : decode cX4_gains 103 = .ok (.istore_n 3, 1) := by decide +kernel
theorem dX4_gains_104 : decode cX4_gains 104 = .ok (.iinc 4 1, 3) := by decide +kernel
theorem dX4_gains_107 : decode cX4_gains 107 = .ok (.goto (-73), 3) := by decide +kernel
theorem dX4_gains_110 : decode cX4_gains 110 = .ok (.iload_n 3, 1) := by decide +kernel
theorem dX4_gains_111 : decode cX4_gains 111 = .ok (.ireturn, 1) := by decide +kernel
theorem dJ6_bitCount_0f7a4_0 : decode cJ6_bitCount_0f7a4 0 = .ok (.iload_n 0, 1) := by decide +kernel
theorem dJ6_bitCount_0f7a4_1 : decode cJ6_bitCount_0f7a4 1 = .ok (.iload_n 0, 1) := by decide +kernel
theorem dJ6_bitCount_0f7a4_2 : decode cJ6_bitCount_0f7a4 2 = .ok (.iconst 1, 1) := by decide +kernel
theorem dJ6_bitCount_0f7a4_3 : decode cJ6_bitCount_0f7a4 3 = .ok (.iushr, 1) := by decide +kernel
theorem dJ6_bitCount_0f7a4_4 : decode cJ6_bitCount_0f7a4 4 = .ok (.ldc_w 265, 3) := by decide +kernel
theorem dJ6_bitCount_0f7a4_7 : decode cJ6_bitCount_0f7a4 7 = .ok (.iand, 1) := by decide +kernel
theorem dJ6_bitCount_0f7a4_8 : decode cJ6_bitCount_0f7a4 8 = .ok (.isub, 1) := by decide +kernel
theorem dJ6_bitCount_0f7a4_9 : decode cJ6_bitCount_0f7a4 9 = .ok (.istore_n 0, 1) := by decide +kernel
theorem dJ6_bitCount_0f7a4_10 : decode cJ6_bitCount_0f7a4 10 = .ok (.iload_n 0, 1) := by decide +kernel
theorem dJ6_bitCount_0f7a4_11 : decode cJ6_bitCount_0f7a4 11 = .ok (.ldc_w 266, 3) := by decide +kernel
theorem dJ6_bitCount_0f7a4_14 : decode cJ6_bitCount_0f7a4 14 = .ok (.iand, 1) := by decide +kernel
theorem dJ6_bitCount_0f7a4_15 : decode cJ6_bitCount_0f7a4 15 = .ok (.iload_n 0, 1) := by decide +kernel
theorem dJ6_bitCount_0f7a4_16 : decode cJ6_bitCount_0f7a4 16 = .ok (.iconst 2, 1) := by decide +kernel
theorem dJ6_bitCount_0f7a4_17 : decode cJ6_bitCount_0f7a4 17 = .ok (.iushr, 1) := by decide +kernel
theorem dJ6_bitCount_0f7a4_18 : decode cJ6_bitCount_0f7a4 18 = .ok (.ldc_w 266, 3) := by decide +kernel
theorem dJ6_bitCount_0f7a4_21 : decode cJ6_bitCount_0f7a4 21 = .ok (.iand, 1) := by decide +kernel
theorem dJ6_bitCount_0f7a4_22 : decode cJ6_bitCount_0f7a4 22 = .ok (.iadd, 1) := by decide +kernel
theorem dJ6_bitCount_0f7a4_23 : decode cJ6_bitCount_0f7a4 23 = .ok (.istore_n 0, 1) := by decide +kernel
theorem dJ6_bitCount_0f7a4_24 : decode cJ6_bitCount_0f7a4 24 = .ok (.iload_n 0, 1) := by decide +kernel
theorem dJ6_bitCount_0f7a4_25 : decode cJ6_bitCount_0f7a4 25 = .ok (.iload_n 0, 1) := by decide +kernel
theorem dJ6_bitCount_0f7a4_26 : decode cJ6_bitCount_0f7a4 26 = .ok (.iconst 4, 1) := by decide +kernel
theorem dJ6_bitCount_0f7a4_27 : decode cJ6_bitCount_0f7a4 27 = .ok (.iushr, 1) := by decide +kernel
theorem dJ6_bitCount_0f7a4_28 : decode cJ6_bitCount_0f7a4 28 = .ok (.iadd, 1) := by decide +kernel
theorem dJ6_bitCount_0f7a4_29 : decode cJ6_bitCount_0f7a4 29 = .ok (.ldc_w 267, 3) := by decide +kernel
theorem dJ6_bitCount_0f7a4_32 : decode cJ6_bitCount_0f7a4 32 = .ok (.iand, 1) := by decide +kernel
theorem dJ6_bitCount_0f7a4_33 : decode cJ6_bitCount_0f7a4 33 = .ok (.istore_n 0, 1) := by decide +kernel
theorem dJ6_bitCount_0f7a4_34 : decode cJ6_bitCount_0f7a4 34 = .ok (.iload_n 0, 1) := by decide +kernel
theorem dJ6_bitCount_0f7a4_35 : decode cJ6_bitCount_0f7a4 35 = .ok (.iload_n 0, 1) := by decide +kernel
theorem dJ6_bitCount_0f7a4_36 : decode cJ6_bitCount_0f7a4 36 = .ok (.bipush 8, 2) := by decide +kernel
theorem dJ6_bitCount_0f7a4_38 : decode cJ6_bitCount_0f7a4 38 = .ok (.iushr, 1) := by decide +kernel
theorem dJ6_bitCount_0f7a4_39 : decode cJ6_bitCount_0f7a4 39 = .ok (.iadd, 1) := by decide +kernel
theorem dJ6_bitCount_0f7a4_40 : decode cJ6_bitCount_0f7a4 40 = .ok (.istore_n 0, 1) := by decide +kernel
theorem dJ6_bitCount_0f7a4_41 : decode cJ6_bitCount_0f7a4 41 = .ok (.iload_n 0, 1) := by decide +kernel
theorem dJ6_bitCount_0f7a4_42 : decode cJ6_bitCount_0f7a4 42 = .ok (.iload_n 0, 1) := by decide +kernel
theorem dJ6_bitCount_0f7a4_43 : decode cJ6_bitCount_0f7a4 43 = .ok (.bipush 16, 2) := by decide +kernel
theorem dJ6_bitCount_0f7a4_45 : decode cJ6_bitCount_0f7a4 45 = .ok (.iushr, 1) := by decide +kernel
theorem dJ6_bitCount_0f7a4_46 : decode cJ6_bitCount_0f7a4 46 = .ok (.iadd, 1) := by decide +kernel
theorem dJ6_bitCount_0f7a4_47 : decode cJ6_bitCount_0f7a4 47 = .ok (.istore_n 0, 1) := by decide +kernel
theorem dJ6_bitCount_0f7a4_48 : decode cJ6_bitCount_0f7a4 48 = .ok (.iload_n 0, 1) := by decide +kernel
theorem dJ6_bitCount_0f7a4_49 : decode cJ6_bitCount_0f7a4 49 = .ok (.bipush 63, 2) := by decide +kernel
theorem dJ6_bitCount_0f7a4_51 : decode cJ6_bitCount_0f7a4 51 = .ok (.iand, 1) := by decide +kernel
theorem dJ6_bitCount_0f7a4_52 : decode cJ6_bitCount_0f7a4 52 = .ok (.ireturn, 1) := by decide +kernel
theorem dJ9_max_7cf53_0 : decode cJ9_max_7cf53 0 = .ok (.iload_n 0, 1) := by decide +kernel
theorem dJ9_max_7cf53_1 : decode cJ9_max_7cf53 1 = .ok (.iload_n 1, 1) := by decide +kernel
theorem dJ9_max_7cf53_2 : decode cJ9_max_7cf53 2 = .ok (.if_icmp .lt 7, 3) := by decide +kernel
theorem dJ9_max_7cf53_5 : decode cJ9_max_7cf53 5 = .ok (.iload_n 0, 1) := by decide +kernel
theorem dJ9_max_7cf53_6 : decode cJ9_max_7cf53 6 = .ok (.goto 4, 3) := by decide +kernel
theorem dJ9_max_7cf53_9 : decode cJ9_max_7cf53 9 = .ok (.iload_n 1, 1) := by decide +kernel
theorem dJ9_max_7cf53_10 : decode cJ9_max_7cf53 10 = .ok (.ireturn, 1) := by decide +kernel
set_option maxRecDepth 20000 in
theorem ggJ0_length_8abf5_J0_coder_7d493 : GoodIn wsJ0_length_8abf5 wsJ0_coder_7d493 := goodIn_r _ [6, 7, 8] (by decide +kernel) (by decide +kernel)
set_option maxRecDepth 20000 in
theorem gJ0_length_8abf5_J0_coder_7d493 : GoodIn wsJ0_length_8abf5 (wsV RJ0 335 RJ0 yJ0_coder_7d493 wsJ0_coder_7d493) := goodIn_app (goodIn_of _ (by decide +kernel)) ggJ0_length_8abf5_J0_coder_7d493
theorem dJ0_length_8abf5_0 : decode cJ0_length_8abf5 0 = .ok (.aload_n 0, 1) := by decide +kernel
theorem dJ0_length_8abf5_1 : decode cJ0_length_8abf5 1 = .ok (.getfield 9, 3) := by decide +kernel
theorem dJ0_length_8abf5_4 : decode cJ0_length_8abf5 4 = .ok (.arraylength, 1) := by decide +kernel
theorem dJ0_length_8abf5_5 : decode cJ0_length_8abf5 5 = .ok (.aload_n 0, 1) := by decide +kernel
theorem dJ0_length_8abf5_6 : decode cJ0_length_8abf5 6 = .ok (.invokevirtual 335, 3) := by decide +kernel
theorem dJ0_length_8abf5_9 : decode cJ0_length_8abf5 9 = .ok (.ishr, 1) := by decide +kernel
theorem dJ0_length_8abf5_10 : decode cJ0_length_8abf5 10 = .ok (.ireturn, 1) := by decide +kernel
set_option maxRecDepth 20000 in
theorem ggJ0_charAt_5068e_J0_isLatin1_aae02 : GoodIn wsJ0_charAt_5068e wsJ0_isLatin1_aae02 := goodIn_r _ [6, 7, 8] (by decide +kernel) (by decide +kernel)
set_option maxRecDepth 20000 in
theorem gJ0_charAt_5068e_J0_isLatin1_aae02 : GoodIn wsJ0_charAt_5068e (wsV RJ0 492 RJ0 yJ0_isLatin1_aae02 wsJ0_isLatin1_aae02) := goodIn_app (goodIn_of _ (by decide +kernel)) ggJ0_charAt_5068e_J0_isLatin1_aae02
set_option maxRecDepth 20000 in
theorem ggJ0_charAt_5068e_J1_charAt_3b067 : GoodIn wsJ0_charAt_5068e wsJ1_charAt_3b067 := goodIn_r _ [12, 13, 14, 5, 15, 16, 17, 18, 19, 20] (by decide +kernel) (by decide +kernel)
set_option maxRecDepth 20000 in
theorem gJ0_charAt_5068e_J1_charAt_3b067 : GoodIn wsJ0_charAt_5068e (va_wsS RJ0 495 yJ1_charAt_3b067 wsJ1_charAt_3b067) := goodIn_app (goodIn_of _ (by decide +kernel)) ggJ0_charAt_5068e_J1_charAt_3b067
set_option maxRecDepth 20000 in
theorem ggJ0_charAt_5068e_J2_charAt_3b067 : GoodIn wsJ0_charAt_5068e wsJ2_charAt_3b067 := goodIn_r _ [24, 25, 26, 23, 27, 28, 29, 30, 31, 14, 5, 15, 16, 17, 18, 19, 20, 32, 33, 34, 35, 36, 37] (by decide +kernel) (by decide +kernel)
set_option maxRecDepth 20000 in
theorem gJ0_charAt_5068e_J2_charAt_3b067 : GoodIn wsJ0_charAt_5068e (va_wsS RJ0 498 yJ2_charAt_3b067 wsJ2_charAt_3b067) := goodIn_app (goodIn_of _ (by decide +kernel)) ggJ0_charAt_5068e_J2_charAt_3b067
theorem dJ0_charAt_5068e_0 : decode cJ0_charAt_5068e 0 = .ok (.aload_n 0, 1) := by decide +kernel
theorem dJ0_charAt_5068e_1 : decode cJ0_charAt_5068e 1 = .ok (.invokevirtual 492, 3) := by decide +kernel
theorem dJ0_charAt_5068e_4 : decode cJ0_charAt_5068e 4 = .ok (.ifCond .eq 12, 3) := by decide +kernel
theorem dJ0_charAt_5068e_7 : decode cJ0_charAt_5068e 7 = .ok (.aload_n 0, 1) := by decide +kernel
theorem dJ0_charAt_5068e_8 : decode cJ0_charAt_5068e 8 = .ok (.getfield 9, 3) := by decide +kernel
theorem dJ0_charAt_5068e_11 : decode cJ0_charAt_5068e 11 = .ok (.iload_n 1, 1) := by decide +kernel
theorem dJ0_charAt_5068e_12 : decode cJ0_charAt_5068e 12 = .ok (.invokestatic 495, 3) := by decide +kernel
theorem dJ0_charAt_5068e_15 : decode cJ0_charAt_5068e 15 = .ok (.ireturn, 1) := by decide +kernel
theorem dJ0_charAt_5068e_16 : decode cJ0_charAt_5068e 16 = .ok (.aload_n 0, 1) := by decide +kernel
theorem dJ0_charAt_5068e_17 : decode cJ0_charAt_5068e 17 = .ok (.getfield 9, 3) := by decide +kernel
theorem dJ0_charAt_5068e_20 : decode cJ0_charAt_5068e 20 = .ok (.iload_n 1, 1) := by decide +kernel
theorem dJ0_charAt_5068e_21 : decode cJ0_charAt_5068e 21 = .ok (.invokestatic 498, 3) := by decide +kernel
theorem dJ0_charAt_5068e_24 : decode cJ0_charAt_5068e 24 = .ok (.ireturn, 1) := by decide +kernel
theorem dJ0_coder_7d493_0 : decode cJ0_coder_7d493 0 = .ok (.getstatic 38, 3) := by decide +kernel
theorem dJ0_coder_7d493_3 : decode cJ0_coder_7d493 3 = .ok (.ifCond .eq 10, 3) := by decide +kernel
theorem dJ0_coder_7d493_6 : decode cJ0_coder_7d493 6 = .ok (.aload_n 0, 1) := by decide +kernel
theorem dJ0_coder_7d493_7 : decode cJ0_coder_7d493 7 = .ok (.getfield 15, 3) := by decide +kernel
theorem dJ0_coder_7d493_10 : decode cJ0_coder_7d493 10 = .ok (.goto 4, 3) := by decide +kernel
theorem dJ0_coder_7d493_13 : decode cJ0_coder_7d493 13 = .ok (.iconst 1, 1) := by decide +kernel
theorem dJ0_coder_7d493_14 : decode cJ0_coder_7d493 14 = .ok (.ireturn, 1) := by decide +kernel
theorem dJ0_isLatin1_aae02_0 : decode cJ0_isLatin1_aae02 0 = .ok (.getstatic 38, 3) := by decide +kernel
theorem dJ0_isLatin1_aae02_3 : decode cJ0_isLatin1_aae02 3 = .ok (.ifCond .eq 14, 3) := by decide +kernel
theorem dJ0_isLatin1_aae02_6 : decode cJ0_isLatin1_aae02 6 = .ok (.aload_n 0, 1) := by decide +kernel
theorem dJ0_isLatin1_aae02_7 : decode cJ0_isLatin1_aae02 7 = .ok (.getfield 15, 3) := by decide +kernel
theorem dJ0_isLatin1_aae02_10 : decode cJ0_isLatin1_aae02 10 = .ok (.ifCond .ne 7, 3) := by decide +kernel
theorem dJ0_isLatin1_aae02_13 : decode cJ0_isLatin1_aae02 13 = .ok (.iconst 1, 1) := by decide +kernel
theorem dJ0_isLatin1_aae02_14 : decode cJ0_isLatin1_aae02 14 = .ok (.goto 4, 3) := by decide +kernel
theorem dJ0_isLatin1_aae02_17 : decode cJ0_isLatin1_aae02 17 = .ok (.iconst 0, 1) := by decide +kernel
theorem dJ0_isLatin1_aae02_18 : decode cJ0_isLatin1_aae02 18 = .ok (.ireturn, 1) := by decide +kernel
set_option maxRecDepth 20000 in
theorem ggJ0_checkIndex_df160_J3_checkIndex_8e157 : GoodIn wsJ0_checkIndex_df160 wsJ3_checkIndex_8e157 := goodIn_r _ [5] (by decide +kernel) (by decide +kernel)
set_option maxRecDepth 20000 in
theorem gJ0_checkIndex_df160_J3_checkIndex_8e157 : GoodIn wsJ0_checkIndex_df160 (va_wsS RJ0 1059 yJ3_checkIndex_8e157 wsJ3_checkIndex_8e157) := goodIn_app (goodIn_of _ (by decide +kernel)) ggJ0_checkIndex_df160_J3_checkIndex_8e157
theorem dJ0_checkIndex_df160_0 : decode cJ0_checkIndex_df160 0 = .ok (.iload_n 0, 1) := by decide +kernel
theorem dJ0_checkIndex_df160_1 : decode cJ0_checkIndex_df160 1 = .ok (.iload_n 1, 1) := by decide +kernel
theorem dJ0_checkIndex_df160_2 : decode cJ0_checkIndex_df160 2 = .ok (.getstatic 1053, 3) := by decide +kernel
theorem dJ0_checkIndex_df160_5 : decode cJ0_checkIndex_df160 5 = .ok (.invokestatic 1059, 3) := by decide +kernel
theorem dJ0_checkIndex_df160_8 : decode cJ0_checkIndex_df160 8 = .ok (.pop, 1) := by decide +kernel
theorem dJ0_checkIndex_df160_9 : decode cJ0_checkIndex_df160 9 = .ok (.return_, 1) := by decide +kernel
set_option maxRecDepth 20000 in
theorem ggJ1_charAt_3b067_J0_checkIndex_df160 : GoodIn wsJ1_charAt_3b067 wsJ0_checkIndex_df160 := goodIn_r _ [4, 5, 6, 7, 8, 9] (by decide +kernel) (by decide +kernel)
set_option maxRecDepth 20000 in
theorem gJ1_charAt_3b067_J0_checkIndex_df160 : GoodIn wsJ1_charAt_3b067 (va_wsS RJ1 9 yJ0_checkIndex_df160 wsJ0_checkIndex_df160) := goodIn_app (goodIn_of _ (by decide +kernel)) ggJ1_charAt_3b067_J0_checkIndex_df160
theorem dJ1_charAt_3b067_0 : decode cJ1_charAt_3b067 0 = .ok (.iload_n 1, 1) := by decide +kernel
theorem dJ1_charAt_3b067_1 : decode cJ1_charAt_3b067 1 = .ok (.aload_n 0, 1) := by decide +kernel
theorem dJ1_charAt_3b067_2 : decode cJ1_charAt_3b067 2 = .ok (.arraylength, 1) := by decide +kernel
theorem dJ1_charAt_3b067_3 : decode cJ1_charAt_3b067 3 = .ok (.invokestatic 9, 3) := by decide +kernel
theorem dJ1_charAt_3b067_6 : decode cJ1_charAt_3b067 6 = .ok (.aload_n 0, 1) := by decide +kernel
theorem dJ1_charAt_3b067_7 : decode cJ1_charAt_3b067 7 = .ok (.iload_n 1, 1) := by decide +kernel
theorem dJ1_charAt_3b067_8 : decode cJ1_charAt_3b067 8 = .ok (.baload, 1) := by decide +kernel
theorem dJ1_charAt_3b067_9 : decode cJ1_charAt_3b067 9 = .ok (.sipush 255, 3) := by decide +kernel
theorem dJ1_charAt_3b067_12 : decode cJ1_charAt_3b067 12 = .ok (.iand, 1) := by decide +kernel
theorem dJ1_charAt_3b067_13 : decode cJ1_charAt_3b067 13 = .ok (.i2c, 1) := by decide +kernel
theorem dJ1_charAt_3b067_14 : decode cJ1_charAt_3b067 14 = .ok (.ireturn, 1) := by decide +kernel
set_option maxRecDepth 20000 in
theorem ggJ2_getChar_3b067_J2_length_9d52b : GoodIn wsJ2_getChar_3b067 wsJ2_length_9d52b := goodIn_r _ [7] (by decide +kernel) (by decide +kernel)
set_option maxRecDepth 20000 in
theorem gJ2_getChar_3b067_J2_length_9d52b : GoodIn wsJ2_getChar_3b067 (va_wsS RJ2 48 yJ2_length_9d52b wsJ2_length_9d52b) := goodIn_app (goodIn_of _ (by decide +kernel)) ggJ2_getChar_3b067_J2_length_9d52b
theorem dJ2_getChar_3b067_0 : decode cJ2_getChar_3b067 0 = .ok (.getstatic 44, 3) := by decide +kernel
theorem dJ2_getChar_3b067_3 : decode cJ2_getChar_3b067 3 = .ok (.ifCond .ne 25, 3) := by decide +kernel
theorem dJ2_getChar_3b067_6 : decode cJ2_getChar_3b067 6 = .ok (.iload_n 1, 1) := by decide +kernel
theorem dJ2_getChar_3b067_7 : decode cJ2_getChar_3b067 7 = .ok (.ifCond .lt 11, 3) := by decide +kernel
theorem dJ2_getChar_3b067_10 : decode cJ2_getChar_3b067 10 = .ok (.iload_n 1, 1) := by decide +kernel
theorem dJ2_getChar_3b067_11 : decode cJ2_getChar_3b067 11 = .ok (.aload_n 0, 1) := by decide +kernel
theorem dJ2_getChar_3b067_12 : decode cJ2_getChar_3b067 12 = .ok (.invokestatic 48, 3) := by decide +kernel
theorem dJ2_getChar_3b067_15 : decode cJ2_getChar_3b067 15 = .ok (.if_icmp .lt 13, 3) := by decide +kernel
theorem dJ2_getChar_3b067_18 : decode cJ2_getChar_3b067 18 = .ok (.new 52, 3) := by decide +kernel
theorem dJ2_getChar_3b067_21 : decode cJ2_getChar_3b067 21 = .ok (.dup, 1) := by decide +kernel
theorem dJ2_getChar_3b067_22 : decode cJ2_getChar_3b067 22 = .ok (.ldc 54, 2) := by decide +kernel
theorem dJ2_getChar_3b067_24 : decode cJ2_getChar_3b067 24 = .ok (.invokespecial 56, 3) := by decide +kernel
theorem dJ2_getChar_3b067_27 : decode cJ2_getChar_3b067 27 = .ok (.athrow, 1) := by decide +kernel
theorem dJ2_getChar_3b067_28 : decode cJ2_getChar_3b067 28 = .ok (.iload_n 1, 1) := by decide +kernel
theorem dJ2_getChar_3b067_29 : decode cJ2_getChar_3b067 29 = .ok (.iconst 1, 1) := by decide +kernel
theorem dJ2_getChar_3b067_30 : decode cJ2_getChar_3b067 30 = .ok (.ishl, 1) := by decide +kernel
theorem dJ2_getChar_3b067_31 : decode cJ2_getChar_3b067 31 = .ok (.istore_n 1, 1) := by decide +kernel
theorem dJ2_getChar_3b067_32 : decode cJ2_getChar_3b067 32 = .ok (.aload_n 0, 1) := by decide +kernel
theorem dJ2_getChar_3b067_33 : decode cJ2_getChar_3b067 33 = .ok (.iload_n 1, 1) := by decide +kernel
theorem dJ2_getChar_3b067_34 : decode cJ2_getChar_3b067 34 = .ok (.iinc 1 1, 3) := by decide +kernel
theorem dJ2_getChar_3b067_37 : decode cJ2_getChar_3b067 37 = .ok (.baload, 1) := by decide +kernel
theorem dJ2_getChar_3b067_38 : decode cJ2_getChar_3b067 38 = .ok (.sipush 255, 3) := by decide +kernel
theorem dJ2_getChar_3b067_41 : decode cJ2_getChar_3b067 41 = .ok (.iand, 1) := by decide +kernel
theorem dJ2_getChar_3b067_42 : decode cJ2_getChar_3b067 42 = .ok (.getstatic 59, 3) := by decide +kernel
theorem dJ2_getChar_3b067_45 : decode cJ2_getChar_3b067 45 = .ok (.ishl, 1) := by decide +kernel
theorem dJ2_getChar_3b067_46 : decode cJ2_getChar_3b067 46 = .ok (.aload_n 0, 1) := by decide +kernel
theorem dJ2_getChar_3b067_47 : decode cJ2_getChar_3b067 47 = .ok (.iload_n 1, 1) := by decide +kernel
theorem dJ2_getChar_3b067_48 : decode cJ2_getChar_3b067 48 = .ok (.baload, 1) := by decide +kernel
theorem dJ2_getChar_3b067_49 : decode cJ2_getChar_3b067 49 = .ok (.sipush 255, 3) := by decide +kernel
theorem dJ2_getChar_3b067_52 : decode cJ2_getChar_3b067 52 = .ok (.iand, 1) := by decide +kernel
theorem dJ2_getChar_3b067_53 : decode cJ2_getChar_3b067 53 = .ok (.getstatic 63, 3) := by decide +kernel
theorem dJ2_getChar_3b067_56 : decode cJ2_getChar_3b067 56 = .ok (.ishl, 1) := by decide +kernel
theorem dJ2_getChar_3b067_57 : decode cJ2_getChar_3b067 57 = .ok (.ior, 1) := by decide +kernel
theorem dJ2_getChar_3b067_58 : decode cJ2_getChar_3b067 58 = .ok (.i2c, 1) := by decide +kernel
theorem dJ2_getChar_3b067_59 : decode cJ2_getChar_3b067 59 = .ok (.ireturn, 1) := by decide +kernel
theorem dJ2_length_9d52b_0 : decode cJ2_length_9d52b 0 = .ok (.aload_n 0, 1) := by decide +kernel
theorem dJ2_length_9d52b_1 : decode cJ2_length_9d52b 1 = .ok (.arraylength, 1) := by decide +kernel
theorem dJ2_length_9d52b_2 : decode cJ2_length_9d52b 2 = .ok (.iconst 1, 1) := by decide +kernel
theorem dJ2_length_9d52b_3 : decode cJ2_length_9d52b 3 = .ok (.ishr, 1) := by decide +kernel
theorem dJ2_length_9d52b_4 : decode cJ2_length_9d52b 4 = .ok (.ireturn, 1) := by decide +kernel
set_option maxRecDepth 20000 in
theorem ggJ2_charAt_3b067_J2_checkIndex_2214a : GoodIn wsJ2_charAt_3b067 wsJ2_checkIndex_2214a := goodIn_r _ [4, 5, 6, 3, 7, 8, 9, 10, 11, 12, 13, 14, 15, 16] (by decide +kernel) (by decide +kernel)
set_option maxRecDepth 20000 in
theorem gJ2_charAt_3b067_J2_checkIndex_2214a : GoodIn wsJ2_charAt_3b067 (va_wsS RJ2 67 yJ2_checkIndex_2214a wsJ2_checkIndex_2214a) := goodIn_app (goodIn_of _ (by decide +kernel)) ggJ2_charAt_3b067_J2_checkIndex_2214a
set_option maxRecDepth 20000 in
theorem ggJ2_charAt_3b067_J2_getChar_3b067 : GoodIn wsJ2_charAt_3b067 wsJ2_getChar_3b067 := goodIn_r _ [19, 20, 21, 22, 5, 6, 3, 7] (by decide +kernel) (by decide +kernel)
set_option maxRecDepth 20000 in
theorem gJ2_charAt_3b067_J2_getChar_3b067 : GoodIn wsJ2_charAt_3b067 (va_wsS RJ2 71 yJ2_getChar_3b067 wsJ2_getChar_3b067) := goodIn_app (goodIn_of _ (by decide +kernel)) ggJ2_charAt_3b067_J2_getChar_3b067
theorem dJ2_charAt_3b067_0 : decode cJ2_charAt_3b067 0 = .ok (.iload_n 1, 1) := by decide +kernel
theorem dJ2_charAt_3b067_1 : decode cJ2_charAt_3b067 1 = .ok (.aload_n 0, 1) := by decide +kernel
theorem dJ2_charAt_3b067_2 : decode cJ2_charAt_3b067 2 = .ok (.invokestatic 67, 3) := by decide +kernel
theorem dJ2_charAt_3b067_5 : decode cJ2_charAt_3b067 5 = .ok (.aload_n 0, 1) := by decide +kernel
theorem dJ2_charAt_3b067_6 : decode cJ2_charAt_3b067 6 = .ok (.iload_n 1, 1) := by decide +kernel
theorem dJ2_charAt_3b067_7 : decode cJ2_charAt_3b067 7 = .ok (.invokestatic 71, 3) := by decide +kernel
theorem dJ2_charAt_3b067_10 : decode cJ2_charAt_3b067 10 = .ok (.ireturn, 1) := by decide +kernel
set_option maxRecDepth 20000 in
theorem ggJ2_checkIndex_2214a_J2_length_9d52b : GoodIn wsJ2_checkIndex_2214a wsJ2_length_9d52b := goodIn_r _ [4] (by decide +kernel) (by decide +kernel)
set_option maxRecDepth 20000 in
theorem gJ2_checkIndex_2214a_J2_length_9d52b : GoodIn wsJ2_checkIndex_2214a (va_wsS RJ2 48 yJ2_length_9d52b wsJ2_length_9d52b) := goodIn_app (goodIn_of _ (by decide +kernel)) ggJ2_checkIndex_2214a_J2_length_9d52b
set_option maxRecDepth 20000 in
theorem ggJ2_checkIndex_2214a_J0_checkIndex_df160 : GoodIn wsJ2_checkIndex_2214a wsJ0_checkIndex_df160 := goodIn_r _ [8, 9, 10, 11, 12, 13] (by decide +kernel) (by decide +kernel)
set_option maxRecDepth 20000 in
theorem gJ2_checkIndex_2214a_J0_checkIndex_df160 : GoodIn wsJ2_checkIndex_2214a (va_wsS RJ2 414 yJ0_checkIndex_df160 wsJ0_checkIndex_df160) := goodIn_app (goodIn_of _ (by decide +kernel)) ggJ2_checkIndex_2214a_J0_checkIndex_df160
theorem dJ2_checkIndex_2214a_0 : decode cJ2_checkIndex_2214a 0 = .ok (.iload_n 0, 1) := by decide +kernel
theorem dJ2_checkIndex_2214a_1 : decode cJ2_checkIndex_2214a 1 = .ok (.aload_n 1, 1) := by decide +kernel
theorem dJ2_checkIndex_2214a_2 : decode cJ2_checkIndex_2214a 2 = .ok (.invokestatic 48, 3) := by decide +kernel
theorem dJ2_checkIndex_2214a_5 : decode cJ2_checkIndex_2214a 5 = .ok (.invokestatic 414, 3) := by decide +kernel
theorem dJ2_checkIndex_2214a_8 : decode cJ2_checkIndex_2214a 8 = .ok (.return_, 1) := by decide +kernel
theorem dJ3_checkIndex_8e157_0 : decode cJ3_checkIndex_8e157 0 = .ok (.iload_n 0, 1) := by decide +kernel
theorem dJ3_checkIndex_8e157_1 : decode cJ3_checkIndex_8e157 1 = .ok (.ifCond .lt 8, 3) := by decide +kernel
theorem dJ3_checkIndex_8e157_4 : decode cJ3_checkIndex_8e157 4 = .ok (.iload_n 0, 1) := by decide +kernel
theorem dJ3_checkIndex_8e157_5 : decode cJ3_checkIndex_8e157 5 = .ok (.iload_n 1, 1) := by decide +kernel
theorem dJ3_checkIndex_8e157_6 : decode cJ3_checkIndex_8e157 6 = .ok (.if_icmp .lt 10, 3) := by decide +kernel
theorem dJ3_checkIndex_8e157_9 : decode cJ3_checkIndex_8e157 9 = .ok (.aload_n 2, 1) := by decide +kernel
theorem dJ3_checkIndex_8e157_10 : decode cJ3_checkIndex_8e157 10 = .ok (.iload_n 0, 1) := by decide +kernel
theorem dJ3_checkIndex_8e157_11 : decode cJ3_checkIndex_8e157 11 = .ok (.iload_n 1, 1) := by decide +kernel
theorem dJ3_checkIndex_8e157_12 : decode cJ3_checkIndex_8e157 12 = .ok (.invokestatic 95, 3) := by decide +kernel
theorem dJ3_checkIndex_8e157_15 : decode cJ3_checkIndex_8e157 15 = .ok (.athrow, 1) := by decide +kernel
theorem dJ3_checkIndex_8e157_16 : decode cJ3_checkIndex_8e157 16 = .ok (.iload_n 0, 1) := by decide +kernel
theorem dJ3_checkIndex_8e157_17 : decode cJ3_checkIndex_8e157 17 = .ok (.ireturn, 1) := by decide +kernel
set_option maxRecDepth 20000 in
theorem ggL_letter_X3_letter : GoodIn wsL_letter wsX3_letter := goodIn_ca (goodIn_ca (goodIn_r _ [7, 8, 9, 10, 11, 12, 13, 14, 15, 16, 17, 18, 19, 20, 21, 22, 23, 24] (by decide +kernel) (by decide +kernel)) (goodIn_sub (fun _ h => List.mem_cons_of_mem _ (List.mem_append_left _ (List.mem_append_right _ h))) (by decide +kernel))) (goodIn_sub (fun _ h => List.mem_cons_of_mem _ (List.mem_append_right _ h)) (by decide +kernel))
set_option maxRecDepth 20000 in
theorem gL_letter_X3_letter : GoodIn wsL_letter (wsV RL 7 RX3 yX3_letter wsX3_letter) := goodIn_app (goodIn_of _ (by decide +kernel)) ggL_letter_X3_letter
end
section
theorem dL_letter_0 : decode cL_letter 0 = .ok (.aload_n 2, 1) := by decide +kernel
theorem dL_letter_1 : decode cL_letter 1 = .ok (.iconst 0, 1) := by decide +kernel
theorem dL_letter_2 : decode cL_letter 2 = .ok (.aload_n 0, 1) := by decide +kernel
theorem dL_letter_3 : decode cL_letter 3 = .ok (.iload_n 1, 1) := by decide +kernel
theorem dL_letter_4 : decode cL_letter 4 = .ok (.invokevirtual 7, 3) := by decide +kernel
theorem dL_letter_7 : decode cL_letter 7 = .ok (.i2l, 1) := by decide +kernel
theorem dL_letter_8 : decode cL_letter 8 = .ok (.lastore, 1) := by decide +kernel
theorem dL_letter_9 : decode cL_letter 9 = .ok (.goto 9, 3) := by decide +kernel
theorem dL_letter_12 : decode cL_letter 12 = .ok (.astore_n 3, 1) := by decide +kernel
theorem dL_letter_13 : decode cL_letter 13 = .ok (.iconst 1, 1) := by decide +kernel
theorem dL_letter_14 : decode cL_letter 14 = .ok (.ireturn, 1) := by decide +kernel
theorem dL_letter_15 : decode cL_letter 15 = .ok (.astore_n 3, 1) := by decide +kernel
theorem dL_letter_16 : decode cL_letter 16 = .ok (.iconst 2, 1) := by decide +kernel
theorem dL_letter_17 : decode cL_letter 17 = .ok (.ireturn, 1) := by decide +kernel
theorem dL_letter_18 : decode cL_letter 18 = .ok (.iconst 0, 1) := by decide +kernel
theorem dL_letter_19 : decode cL_letter 19 = .ok (.ireturn, 1) := by decide +kernel
set_option maxRecDepth 20000 in
theorem ggL_office_X3_office : GoodIn wsL_office wsX3_office := goodIn_ca (goodIn_ca (goodIn_r _ [7, 8, 9, 10, 11, 12, 13, 6, 14, 15, 16, 17, 18, 19, 20, 21, 22, 23, 24, 25, 26, 27] (by decide +kernel) (by decide +kernel)) (goodIn_sub (fun _ h => List.mem_cons_of_mem _ (List.mem_append_left _ (List.mem_append_right _ h))) (by decide +kernel))) (goodIn_sub (fun _ h => List.mem_cons_of_mem _ (List.mem_append_right _ h)) (by decide +kernel))
set_option maxRecDepth 20000 in
theorem gL_office_X3_office : GoodIn wsL_office (wsV RL 17 RX3 yX3_office wsX3_office) := goodIn_app (goodIn_of _ (by decide +kernel)) ggL_office_X3_office
theorem dL_office_0 : decode cL_office 0 = .ok (.aload_n 2, 1) := by decide +kernel
theorem dL_office_1 : decode cL_office 1 = .ok (.iconst 0, 1) := by decide +kernel
theorem dL_office_2 : decode cL_office 2 = .ok (.aload_n 0, 1) := by decide +kernel
theorem dL_office_3 : decode cL_office 3 = .ok (.iload_n 1, 1) := by decide +kernel
theorem dL_office_4 : decode cL_office 4 = .ok (.invokevirtual 17, 3) := by decide +kernel
theorem dL_office_7 : decode cL_office 7 = .ok (.i2l, 1) := by decide +kernel
theorem dL_office_8 : decode cL_office 8 = .ok (.lastore, 1) := by decide +kernel
theorem dL_office_9 : decode cL_office 9 = .ok (.goto 9, 3) := by decide +kernel
theorem dL_office_12 : decode cL_office 12 = .ok (.astore_n 3, 1) := by decide +kernel
theorem dL_office_13 : decode cL_office 13 = .ok (.iconst 1, 1) := by decide +kernel
theorem dL_office_14 : decode cL_office 14 = .ok (.ireturn, 1) := by decide +kernel
theorem dL_office_15 : decode cL_office 15 = .ok (.astore_n 3, 1) := by decide +kernel
theorem dL_office_16 : decode cL_office 16 = .ok (.iconst 2, 1) := by decide +kernel
theorem dL_office_17 : decode cL_office 17 = .ok (.ireturn, 1) := by decide +kernel
theorem dL_office_18 : decode cL_office 18 = .ok (.iconst 0, 1) := by decide +kernel
theorem dL_office_19 : decode cL_office 19 = .ok (.ireturn, 1) := by decide +kernel
set_option maxRecDepth 20000 in
theorem ggL_delegate_X3_delegate : GoodIn wsL_delegate wsX3_delegate := goodIn_ca (goodIn_ca (goodIn_r _ [7, 8, 9, 10, 11, 12, 13, 14, 6, 15, 16, 17, 18, 19, 20, 21, 22, 23, 24, 25, 26, 27, 28, 29, 30, 31, 32, 33, 34, 35, 36, 37, 38, 39, 40, 41, 42, 43, 44, 45] (by decide +kernel) (by decide +kernel)) (goodIn_sub (fun _ h => List.mem_cons_of_mem _ (List.mem_append_left _ (List.mem_append_right _ h))) (by decide +kernel))) (goodIn_sub (fun _ h => List.mem_cons_of_mem _ (List.mem_append_right _ h)) (by decide +kernel))
set_option maxRecDepth 20000 in
theorem gL_delegate_X3_delegate : GoodIn wsL_delegate (wsV RL 23 RX3 yX3_delegate wsX3_delegate) := goodIn_app (goodIn_of _ (by decide +kernel)) ggL_delegate_X3_delegate
theorem dL_delegate_0 : decode cL_delegate 0 = .ok (.aload_n 3, 1) := by decide +kernel
theorem dL_delegate_1 : decode cL_delegate 1 = .ok (.iconst 0, 1) := by decide +kernel
theorem dL_delegate_2 : decode cL_delegate 2 = .ok (.aload_n 0, 1) := by decide +kernel
theorem dL_delegate_3 : decode cL_delegate 3 = .ok (.iload_n 1, 1) := by decide +kernel
theorem dL_delegate_4 : decode cL_delegate 4 = .ok (.iload_n 2, 1) := by decide +kernel
theorem dL_delegate_5 : decode cL_delegate 5 = .ok (.invokevirtual 23, 3) := by decide +kernel
theorem dL_delegate_8 : decode cL_delegate 8 = .ok (.i2l, 1) := by decide +kernel
theorem dL_delegate_9 : decode cL_delegate 9 = .ok (.lastore, 1) := by decide +kernel
theorem dL_delegate_10 : decode cL_delegate 10 = .ok (.goto 11, 3) := by decide +kernel
theorem dL_delegate_13 : decode cL_delegate 13 = .ok (.astore 4, 2) := by decide +kernel
theorem dL_delegate_15 : decode cL_delegate 15 = .ok (.iconst 1, 1) := by decide +kernel
theorem dL_delegate_16 : decode cL_delegate 16 = .ok (.ireturn, 1) := by decide +kernel
theorem dL_delegate_17 : decode cL_delegate 17 = .ok (.astore 4, 2) := by decide +kernel
theorem dL_delegate_19 : decode cL_delegate 19 = .ok (.iconst 2, 1) := by decide +kernel
theorem dL_delegate_20 : decode cL_delegate 20 = .ok (.ireturn, 1) := by decide +kernel
theorem dL_delegate_21 : decode cL_delegate 21 = .ok (.iconst 0, 1) := by decide +kernel
theorem dL_delegate_22 : decode cL_delegate 22 = .ok (.ireturn, 1) := by decide +kernel
set_option maxRecDepth 20000 in
theorem ggL_whose_X3_whose : GoodIn wsL_whose wsX3_whose := goodIn_ca (goodIn_ca (goodIn_r _ [7, 8, 9, 10, 11, 6, 12, 13, 14, 15, 16, 17, 18, 19, 20, 21, 22, 23, 24, 25, 26, 27, 28, 29, 30, 31, 32, 33, 34, 35, 36, 37, 38, 39, 40, 41, 42, 43, 44, 45, 46, 47, 48] (by decide +kernel) (by decide +kernel)) (goodIn_sub (fun _ h => List.mem_cons_of_mem _ (List.mem_append_left _ (List.mem_append_right _ h))) (by decide +kernel))) (goodIn_sub (fun _ h => List.mem_cons_of_mem _ (List.mem_append_right _ h)) (by decide +kernel))
set_option maxRecDepth 20000 in
theorem gL_whose_X3_whose : GoodIn wsL_whose (wsV RL 27 RX3 yX3_whose wsX3_whose) := goodIn_app (goodIn_of _ (by decide +kernel)) ggL_whose_X3_whose
theorem dL_whose_0 : decode cL_whose 0 = .ok (.aload_n 3, 1) := by decide +kernel
theorem dL_whose_1 : decode cL_whose 1 = .ok (.iconst 0, 1) := by decide +kernel
theorem dL_whose_2 : decode cL_whose 2 = .ok (.aload_n 0, 1) := by decide +kernel
theorem dL_whose_3 : decode cL_whose 3 = .ok (.iload_n 1, 1) := by decide +kernel
theorem dL_whose_4 : decode cL_whose 4 = .ok (.iload_n 2, 1) := by decide +kernel
theorem dL_whose_5 : decode cL_whose 5 = .ok (.invokevirtual 27, 3) := by decide +kernel
theorem dL_whose_8 : decode cL_whose 8 = .ok (.i2l, 1) := by decide +kernel
theorem dL_whose_9 : decode cL_whose 9 = .ok (.lastore, 1) := by decide +kernel
theorem dL_whose_10 : decode cL_whose 10 = .ok (.goto 11, 3) := by decide +kernel
theorem dL_whose_13 : decode cL_whose 13 = .ok (.astore 4, 2) := by decide +kernel
theorem dL_whose_15 : decode cL_whose 15 = .ok (.iconst 1, 1) := by decide +kernel
theorem dL_whose_16 : decode cL_whose 16 = .ok (.ireturn, 1) := by decide +kernel
theorem dL_whose_17 : decode cL_whose 17 = .ok (.astore 4, 2) := by decide +kernel
theorem dL_whose_19 : decode cL_whose 19 = .ok (.iconst 2, 1) := by decide +kernel
theorem dL_whose_20 : decode cL_whose 20 = .ok (.ireturn, 1) := by decide +kernel
theorem dL_whose_21 : decode cL_whose 21 = .ok (.iconst 0, 1) := by decide +kernel
theorem dL_whose_22 : decode cL_whose 22 = .ok (.ireturn, 1) := by decide +kernel
set_option maxRecDepth 20000 in
theorem ggL_limit_X3_limit : GoodIn wsL_limit wsX3_limit := goodIn_ca (goodIn_ca (goodIn_r _ [7, 8, 9, 10, 11, 6, 12, 13, 14, 15, 16, 17, 18, 19, 20, 21, 22, 23, 24, 25, 26, 27, 28, 29, 30, 31, 32, 33, 34, 35, 36, 37, 38, 39, 40, 41, 42, 43, 44, 45, 46, 47] (by decide +kernel) (by decide +kernel)) (goodIn_sub (fun _ h => List.mem_cons_of_mem _ (List.mem_append_left _ (List.mem_append_right _ h))) (by decide +kernel))) (goodIn_sub (fun _ h => List.mem_cons_of_mem _ (List.mem_append_right _ h)) (by decide +kernel))
set_option maxRecDepth 20000 in
theorem gL_limit_X3_limit : GoodIn wsL_limit (wsV RL 30 RX3 yX3_limit wsX3_limit) := goodIn_app (goodIn_of _ (by decide +kernel)) ggL_limit_X3_limit
theorem dL_limit_0 : decode cL_limit 0 = .ok (.aload_n 3, 1) := by decide +kernel
theorem dL_limit_1 : decode cL_limit 1 = .ok (.iconst 0, 1) := by decide +kernel
theorem dL_limit_2 : decode cL_limit 2 = .ok (.aload_n 0, 1) := by decide +kernel
theorem dL_limit_3 : decode cL_limit 3 = .ok (.iload_n 1, 1) := by decide +kernel
theorem dL_limit_4 : decode cL_limit 4 = .ok (.iload_n 2, 1) := by decide +kernel
theorem dL_limit_5 : decode cL_limit 5 = .ok (.invokevirtual 30, 3) := by decide +kernel
theorem dL_limit_8 : decode cL_limit 8 = .ok (.i2l, 1) := by decide +kernel
theorem dL_limit_9 : decode cL_limit 9 = .ok (.lastore, 1) := by decide +kernel
theorem dL_limit_10 : decode cL_limit 10 = .ok (.goto 11, 3) := by decide +kernel
theorem dL_limit_13 : decode cL_limit 13 = .ok (.astore 4, 2) := by decide +kernel
theorem dL_limit_15 : decode cL_limit 15 = .ok (.iconst 1, 1) := by decide +kernel
theorem dL_limit_16 : decode cL_limit 16 = .ok (.ireturn, 1) := by decide +kernel
theorem dL_limit_17 : decode cL_limit 17 = .ok (.astore 4, 2) := by decide +kernel
theorem dL_limit_19 : decode cL_limit 19 = .ok (.iconst 2, 1) := by decide +kernel
theorem dL_limit_20 : decode cL_limit 20 = .ok (.ireturn, 1) := by decide +kernel
theorem dL_limit_21 : decode cL_limit 21 = .ok (.iconst 0, 1) := by decide +kernel
theorem dL_limit_22 : decode cL_limit 22 = .ok (.ireturn, 1) := by decide +kernel
set_option maxRecDepth 20000 in
theorem ggL_act_X3_act : GoodIn wsL_act wsX3_act := goodIn_ca (goodIn_ca (goodIn_ca (goodIn_r _ [8, 9, 10, 11, 12, 13, 14, 15, 16, 17, 7, 18, 19, 20, 21, 22, 23, 24, 25, 26, 27, 28, 29, 30, 31, 32, 33, 34, 35, 36, 37, 38, 39, 40, 41, 42, 43, 44, 45, 46, 47, 48, 49, 50, 51, 52, 53, 54, 55, 56, 57, 58, 59, 60, 61, 62, 63, 64, 65, 66, 67, 68, 69, 70, 71, 72, 73, 74, 75, 76, 77, 78, 79, 80, 81, 82, 83, 84, 85, 86, 87, 88, 89, 90, 91, 92, 93, 94, 95, 96, 97, 98, 99, 100, 101, 102, 103, 104, 105, 106, 107, 108, 109, 110, 111, 112, 113, 114, 115, 116, 117, 118, 119, 120, 121, 122, 123, 124, 125, 126, 127, 128, 129, 130, 131, 132, 133, 134] (by decide +kernel) (by decide +kernel)) (goodIn_sub (fun _ h => List.mem_cons_of_mem _ (List.mem_append_left _ (List.mem_append_left _ (List.mem_append_right _ h)))) (by decide +kernel))) (goodIn_sub (fun _ h => List.mem_cons_of_mem _ (List.mem_append_left _ (List.mem_append_right _ h))) (by decide +kernel))) (goodIn_sub (fun _ h => List.mem_cons_of_mem _ (List.mem_append_right _ h)) (by decide +kernel))
set_option maxRecDepth 20000 in
theorem gL_act_X3_act : GoodIn wsL_act (wsV RL 33 RX3 yX3_act wsX3_act) := goodIn_app (goodIn_of _ (by decide +kernel)) ggL_act_X3_act
theorem dL_act_0 : decode cL_act 0 = .ok (.aload 4, 2) := by decide +kernel
theorem dL_act_2 : decode cL_act 2 = .ok (.iconst 0, 1) := by decide +kernel
theorem dL_act_3 : decode cL_act 3 = .ok (.aload_n 0, 1) := by decide +kernel
theorem dL_act_4 : decode cL_act 4 = .ok (.iload_n 1, 1) := by decide +kernel
theorem dL_act_5 : decode cL_act 5 = .ok (.iload_n 2, 1) := by decide +kernel
theorem dL_act_6 : decode cL_act 6 = .ok (.iload_n 3, 1) := by decide +kernel
theorem dL_act_7 : decode cL_act 7 = .ok (.invokevirtual 33, 3) := by decide +kernel
theorem dL_act_10 : decode cL_act 10 = .ok (.i2l, 1) := by decide +kernel
theorem dL_act_11 : decode cL_act 11 = .ok (.lastore, 1) := by decide +kernel
theorem dL_act_12 : decode cL_act 12 = .ok (.goto 15, 3) := by decide +kernel
theorem dL_act_15 : decode cL_act 15 = .ok (.astore 5, 2) := by decide +kernel
theorem dL_act_17 : decode cL_act 17 = .ok (.iconst 1, 1) := by decide +kernel
theorem dL_act_18 : decode cL_act 18 = .ok (.ireturn, 1) := by decide +kernel
theorem dL_act_19 : decode cL_act 19 = .ok (.astore 5, 2) := by decide +kernel
theorem dL_act_21 : decode cL_act 21 = .ok (.iconst 2, 1) := by decide +kernel
theorem dL_act_22 : decode cL_act 22 = .ok (.ireturn, 1) := by decide +kernel
theorem dL_act_23 : decode cL_act 23 = .ok (.astore 5, 2) := by decide +kernel
theorem dL_act_25 : decode cL_act 25 = .ok (.iconst 3, 1) := by decide +kernel
theorem dL_act_26 : decode cL_act 26 = .ok (.ireturn, 1) := by decide +kernel
theorem dL_act_27 : decode cL_act 27 = .ok (.iconst 0, 1) := by decide +kernel
theorem dL_act_28 : decode cL_act 28 = .ok (.ireturn, 1) := by decide +kernel
set_option maxRecDepth 20000 in
theorem ggL_court_X3_court : GoodIn wsL_court wsX3_court := goodIn_ca (goodIn_r _ [6, 7, 8, 9, 10, 11, 5, 12, 13, 14, 15, 16, 17, 18, 19, 20, 21, 22, 23, 24, 25, 26, 27, 28, 29, 30, 31, 32, 33, 34] (by decide +kernel) (by decide +kernel)) (goodIn_sub (fun _ h => List.mem_cons_of_mem _ (List.mem_append_right _ h)) (by decide +kernel))
set_option maxRecDepth 20000 in
theorem gL_court_X3_court : GoodIn wsL_court (wsV RL 37 RX3 yX3_court wsX3_court) := goodIn_app (goodIn_of _ (by decide +kernel)) ggL_court_X3_court
theorem dL_court_0 : decode cL_court 0 = .ok (.aload_n 3, 1) := by decide +kernel
theorem dL_court_1 : decode cL_court 1 = .ok (.iconst 0, 1) := by decide +kernel
theorem dL_court_2 : decode cL_court 2 = .ok (.aload_n 0, 1) := by decide +kernel
theorem dL_court_3 : decode cL_court 3 = .ok (.iload_n 1, 1) := by decide +kernel
theorem dL_court_4 : decode cL_court 4 = .ok (.iload_n 2, 1) := by decide +kernel
theorem dL_court_5 : decode cL_court 5 = .ok (.invokevirtual 37, 3) := by decide +kernel
theorem dL_court_8 : decode cL_court 8 = .ok (.ifCond .eq 7, 3) := by decide +kernel
theorem dL_court_11 : decode cL_court 11 = .ok (.lconst 1, 1) := by decide +kernel
theorem dL_court_12 : decode cL_court 12 = .ok (.goto 4, 3) := by decide +kernel
theorem dL_court_15 : decode cL_court 15 = .ok (.lconst 0, 1) := by decide +kernel
theorem dL_court_16 : decode cL_court 16 = .ok (.lastore, 1) := by decide +kernel
theorem dL_court_17 : decode cL_court 17 = .ok (.goto 7, 3) := by decide +kernel
theorem dL_court_20 : decode cL_court 20 = .ok (.astore 4, 2) := by decide +kernel
theorem dL_court_22 : decode cL_court 22 = .ok (.iconst 1, 1) := by decide +kernel
theorem dL_court_23 : decode cL_court 23 = .ok (.ireturn, 1) := by decide +kernel
theorem dL_court_24 : decode cL_court 24 = .ok (.iconst 0, 1) := by decide +kernel
theorem dL_court_25 : decode cL_court 25 = .ok (.ireturn, 1) := by decide +kernel
set_option maxRecDepth 20000 in
theorem ggL_waive_X3_waive : GoodIn wsL_waive wsX3_waive := goodIn_ca (goodIn_r _ [6, 7, 8, 9, 10, 11, 5, 12, 13, 14, 15, 16, 17, 18, 19, 20, 21, 22, 23, 24, 25, 26, 27, 28, 29, 30, 31, 32, 33, 34] (by decide +kernel) (by decide +kernel)) (goodIn_sub (fun _ h => List.mem_cons_of_mem _ (List.mem_append_right _ h)) (by decide +kernel))
set_option maxRecDepth 20000 in
theorem gL_waive_X3_waive : GoodIn wsL_waive (wsV RL 41 RX3 yX3_waive wsX3_waive) := goodIn_app (goodIn_of _ (by decide +kernel)) ggL_waive_X3_waive
theorem dL_waive_0 : decode cL_waive 0 = .ok (.aload_n 3, 1) := by decide +kernel
theorem dL_waive_1 : decode cL_waive 1 = .ok (.iconst 0, 1) := by decide +kernel
theorem dL_waive_2 : decode cL_waive 2 = .ok (.aload_n 0, 1) := by decide +kernel
theorem dL_waive_3 : decode cL_waive 3 = .ok (.iload_n 1, 1) := by decide +kernel
theorem dL_waive_4 : decode cL_waive 4 = .ok (.iload_n 2, 1) := by decide +kernel
theorem dL_waive_5 : decode cL_waive 5 = .ok (.invokevirtual 41, 3) := by decide +kernel
theorem dL_waive_8 : decode cL_waive 8 = .ok (.ifCond .eq 7, 3) := by decide +kernel
theorem dL_waive_11 : decode cL_waive 11 = .ok (.lconst 1, 1) := by decide +kernel
theorem dL_waive_12 : decode cL_waive 12 = .ok (.goto 4, 3) := by decide +kernel
theorem dL_waive_15 : decode cL_waive 15 = .ok (.lconst 0, 1) := by decide +kernel
theorem dL_waive_16 : decode cL_waive 16 = .ok (.lastore, 1) := by decide +kernel
theorem dL_waive_17 : decode cL_waive 17 = .ok (.goto 7, 3) := by decide +kernel
theorem dL_waive_20 : decode cL_waive 20 = .ok (.astore 4, 2) := by decide +kernel
theorem dL_waive_22 : decode cL_waive 22 = .ok (.iconst 1, 1) := by decide +kernel
theorem dL_waive_23 : decode cL_waive 23 = .ok (.ireturn, 1) := by decide +kernel
theorem dL_waive_24 : decode cL_waive 24 = .ok (.iconst 0, 1) := by decide +kernel
theorem dL_waive_25 : decode cL_waive 25 = .ok (.ireturn, 1) := by decide +kernel
set_option maxRecDepth 20000 in
theorem ggL_plea_X3_plea : GoodIn wsL_plea wsX3_plea := goodIn_ca (goodIn_ca (goodIn_r _ [7, 8, 9, 10, 11, 12, 13, 14, 15, 6, 16, 17, 18, 19, 20, 21, 22, 23, 24, 25, 26, 27, 28, 29, 30, 31, 32, 33, 34, 35, 36, 37, 38] (by decide +kernel) (by decide +kernel)) (goodIn_sub (fun _ h => List.mem_cons_of_mem _ (List.mem_append_left _ (List.mem_append_right _ h))) (by decide +kernel))) (goodIn_sub (fun _ h => List.mem_cons_of_mem _ (List.mem_append_right _ h)) (by decide +kernel))
set_option maxRecDepth 20000 in
theorem gL_plea_X3_plea : GoodIn wsL_plea (wsV RL 44 RX3 yX3_plea wsX3_plea) := goodIn_app (goodIn_of _ (by decide +kernel)) ggL_plea_X3_plea
theorem dL_plea_0 : decode cL_plea 0 = .ok (.aload_n 0, 1) := by decide +kernel
theorem dL_plea_1 : decode cL_plea 1 = .ok (.iload_n 1, 1) := by decide +kernel
theorem dL_plea_2 : decode cL_plea 2 = .ok (.iload_n 2, 1) := by decide +kernel
theorem dL_plea_3 : decode cL_plea 3 = .ok (.invokevirtual 44, 3) := by decide +kernel
theorem dL_plea_6 : decode cL_plea 6 = .ok (.goto 9, 3) := by decide +kernel
theorem dL_plea_9 : decode cL_plea 9 = .ok (.astore_n 3, 1) := by decide +kernel
theorem dL_plea_10 : decode cL_plea 10 = .ok (.iconst 1, 1) := by decide +kernel
theorem dL_plea_11 : decode cL_plea 11 = .ok (.ireturn, 1) := by decide +kernel
theorem dL_plea_12 : decode cL_plea 12 = .ok (.astore_n 3, 1) := by decide +kernel
theorem dL_plea_13 : decode cL_plea 13 = .ok (.iconst 2, 1) := by decide +kernel
theorem dL_plea_14 : decode cL_plea 14 = .ok (.ireturn, 1) := by decide +kernel
theorem dL_plea_15 : decode cL_plea 15 = .ok (.iconst 0, 1) := by decide +kernel
theorem dL_plea_16 : decode cL_plea 16 = .ok (.ireturn, 1) := by decide +kernel
set_option maxRecDepth 20000 in
theorem ggL_bar_X3_bar : GoodIn wsL_bar wsX3_bar := goodIn_ca (goodIn_r _ [6, 7, 8, 9, 10, 11, 5, 12, 13, 14, 15, 16, 17, 18, 19, 20, 21, 22, 23, 24, 25, 26, 27, 28, 29, 30, 31, 32, 33, 34, 35, 36, 37, 38, 39, 40, 41, 42, 43] (by decide +kernel) (by decide +kernel)) (goodIn_sub (fun _ h => List.mem_cons_of_mem _ (List.mem_append_right _ h)) (by decide +kernel))
set_option maxRecDepth 20000 in
theorem gL_bar_X3_bar : GoodIn wsL_bar (wsV RL 48 RX3 yX3_bar wsX3_bar) := goodIn_app (goodIn_of _ (by decide +kernel)) ggL_bar_X3_bar
theorem dL_bar_0 : decode cL_bar 0 = .ok (.aload_n 3, 1) := by decide +kernel
theorem dL_bar_1 : decode cL_bar 1 = .ok (.iconst 0, 1) := by decide +kernel
theorem dL_bar_2 : decode cL_bar 2 = .ok (.aload_n 0, 1) := by decide +kernel
theorem dL_bar_3 : decode cL_bar 3 = .ok (.iload_n 1, 1) := by decide +kernel
theorem dL_bar_4 : decode cL_bar 4 = .ok (.iload_n 2, 1) := by decide +kernel
theorem dL_bar_5 : decode cL_bar 5 = .ok (.invokevirtual 48, 3) := by decide +kernel
theorem dL_bar_8 : decode cL_bar 8 = .ok (.i2l, 1) := by decide +kernel
theorem dL_bar_9 : decode cL_bar 9 = .ok (.lastore, 1) := by decide +kernel
theorem dL_bar_10 : decode cL_bar 10 = .ok (.goto 7, 3) := by decide +kernel
theorem dL_bar_13 : decode cL_bar 13 = .ok (.astore 4, 2) := by decide +kernel
theorem dL_bar_15 : decode cL_bar 15 = .ok (.iconst 1, 1) := by decide +kernel
theorem dL_bar_16 : decode cL_bar 16 = .ok (.ireturn, 1) := by decide +kernel
theorem dL_bar_17 : decode cL_bar 17 = .ok (.iconst 0, 1) := by decide +kernel
theorem dL_bar_18 : decode cL_bar 18 = .ok (.ireturn, 1) := by decide +kernel
set_option maxRecDepth 20000 in
theorem ggL_complain_X3_complain : GoodIn wsL_complain wsX3_complain := goodIn_ca (goodIn_ca (goodIn_r _ [7, 8, 9, 10, 11, 12, 13, 14, 15, 6, 16, 17, 18, 19, 20, 21, 22, 23, 24, 25, 26, 27, 28, 29, 30, 31, 32, 33, 34, 35, 36, 37, 38, 39, 40, 41, 42, 43, 44, 45, 46, 47, 48, 49, 50, 51, 52, 53, 54, 55, 56, 57, 58, 59, 60, 61, 62, 63, 64, 65, 66, 67, 68, 69, 70, 71, 72, 73, 74, 75, 76, 77, 78, 79, 80, 81] (by decide +kernel) (by decide +kernel)) (goodIn_sub (fun _ h => List.mem_cons_of_mem _ (List.mem_append_left _ (List.mem_append_right _ h))) (by decide +kernel))) (goodIn_sub (fun _ h => List.mem_cons_of_mem _ (List.mem_append_right _ h)) (by decide +kernel))
set_option maxRecDepth 20000 in
theorem gL_complain_X3_complain : GoodIn wsL_complain (wsV RL 51 RX3 yX3_complain wsX3_complain) := goodIn_app (goodIn_of _ (by decide +kernel)) ggL_complain_X3_complain
theorem dL_complain_0 : decode cL_complain 0 = .ok (.aload_n 3, 1) := by decide +kernel
theorem dL_complain_1 : decode cL_complain 1 = .ok (.iconst 0, 1) := by decide +kernel
theorem dL_complain_2 : decode cL_complain 2 = .ok (.aload_n 0, 1) := by decide +kernel
theorem dL_complain_3 : decode cL_complain 3 = .ok (.iload_n 1, 1) := by decide +kernel
theorem dL_complain_4 : decode cL_complain 4 = .ok (.iload_n 2, 1) := by decide +kernel
theorem dL_complain_5 : decode cL_complain 5 = .ok (.invokevirtual 51, 3) := by decide +kernel
theorem dL_complain_8 : decode cL_complain 8 = .ok (.i2l, 1) := by decide +kernel
theorem dL_complain_9 : decode cL_complain 9 = .ok (.lastore, 1) := by decide +kernel
theorem dL_complain_10 : decode cL_complain 10 = .ok (.goto 11, 3) := by decide +kernel
theorem dL_complain_13 : decode cL_complain 13 = .ok (.astore 4, 2) := by decide +kernel
theorem dL_complain_15 : decode cL_complain 15 = .ok (.iconst 1, 1) := by decide +kernel
theorem dL_complain_16 : decode cL_complain 16 = .ok (.ireturn, 1) := by decide +kernel
theorem dL_complain_17 : decode cL_complain 17 = .ok (.astore 4, 2) := by decide +kernel
theorem dL_complain_19 : decode cL_complain 19 = .ok (.iconst 2, 1) := by decide +kernel
theorem dL_complain_20 : decode cL_complain 20 = .ok (.ireturn, 1) := by decide +kernel
theorem dL_complain_21 : decode cL_complain 21 = .ok (.iconst 0, 1) := by decide +kernel
theorem dL_complain_22 : decode cL_complain 22 = .ok (.ireturn, 1) := by decide +kernel
set_option maxRecDepth 20000 in
theorem ggL_ask_X3_ask : GoodIn wsL_ask wsX3_ask := goodIn_ca (goodIn_ca (goodIn_r _ [7, 8, 9, 10, 11, 12, 13, 14, 15, 16, 17, 18, 19, 20, 6, 21, 22, 23, 24, 25, 26, 27, 28, 29, 30, 31, 32, 33, 34, 35, 36, 37, 38, 39, 40, 41, 42, 43, 44, 45, 46, 47, 48, 49, 50, 51] (by decide +kernel) (by decide +kernel)) (goodIn_sub (fun _ h => List.mem_cons_of_mem _ (List.mem_append_left _ (List.mem_append_right _ h))) (by decide +kernel))) (goodIn_sub (fun _ h => List.mem_cons_of_mem _ (List.mem_append_right _ h)) (by decide +kernel))
set_option maxRecDepth 20000 in
theorem gL_ask_X3_ask : GoodIn wsL_ask (wsV RL 54 RX3 yX3_ask wsX3_ask) := goodIn_app (goodIn_of _ (by decide +kernel)) ggL_ask_X3_ask
theorem dL_ask_0 : decode cL_ask 0 = .ok (.aload_n 2, 1) := by decide +kernel
theorem dL_ask_1 : decode cL_ask 1 = .ok (.iconst 0, 1) := by decide +kernel
theorem dL_ask_2 : decode cL_ask 2 = .ok (.aload_n 0, 1) := by decide +kernel
theorem dL_ask_3 : decode cL_ask 3 = .ok (.iload_n 1, 1) := by decide +kernel
theorem dL_ask_4 : decode cL_ask 4 = .ok (.invokevirtual 54, 3) := by decide +kernel
theorem dL_ask_7 : decode cL_ask 7 = .ok (.i2l, 1) := by decide +kernel
theorem dL_ask_8 : decode cL_ask 8 = .ok (.lastore, 1) := by decide +kernel
theorem dL_ask_9 : decode cL_ask 9 = .ok (.goto 9, 3) := by decide +kernel
theorem dL_ask_12 : decode cL_ask 12 = .ok (.astore_n 3, 1) := by decide +kernel
theorem dL_ask_13 : decode cL_ask 13 = .ok (.iconst 1, 1) := by decide +kernel
theorem dL_ask_14 : decode cL_ask 14 = .ok (.ireturn, 1) := by decide +kernel
theorem dL_ask_15 : decode cL_ask 15 = .ok (.astore_n 3, 1) := by decide +kernel
theorem dL_ask_16 : decode cL_ask 16 = .ok (.iconst 2, 1) := by decide +kernel
theorem dL_ask_17 : decode cL_ask 17 = .ok (.ireturn, 1) := by decide +kernel
theorem dL_ask_18 : decode cL_ask 18 = .ok (.iconst 0, 1) := by decide +kernel
theorem dL_ask_19 : decode cL_ask 19 = .ok (.ireturn, 1) := by decide +kernel
set_option maxRecDepth 20000 in
theorem ggL_answer_X3_answer : GoodIn wsL_answer wsX3_answer := goodIn_ca (goodIn_ca (goodIn_r _ [7, 8, 9, 10, 11, 12, 13, 14, 15, 16, 6, 17, 18, 19, 20, 21, 22, 23, 24, 25, 26, 27, 28, 29, 30, 31, 32, 33, 34, 35, 36, 37, 38] (by decide +kernel) (by decide +kernel)) (goodIn_sub (fun _ h => List.mem_cons_of_mem _ (List.mem_append_left _ (List.mem_append_right _ h))) (by decide +kernel))) (goodIn_sub (fun _ h => List.mem_cons_of_mem _ (List.mem_append_right _ h)) (by decide +kernel))
set_option maxRecDepth 20000 in
theorem gL_answer_X3_answer : GoodIn wsL_answer (wsV RL 57 RX3 yX3_answer wsX3_answer) := goodIn_app (goodIn_of _ (by decide +kernel)) ggL_answer_X3_answer
theorem dL_answer_0 : decode cL_answer 0 = .ok (.aload_n 2, 1) := by decide +kernel
theorem dL_answer_1 : decode cL_answer 1 = .ok (.iconst 0, 1) := by decide +kernel
theorem dL_answer_2 : decode cL_answer 2 = .ok (.aload_n 0, 1) := by decide +kernel
theorem dL_answer_3 : decode cL_answer 3 = .ok (.iload_n 1, 1) := by decide +kernel
theorem dL_answer_4 : decode cL_answer 4 = .ok (.invokevirtual 57, 3) := by decide +kernel
theorem dL_answer_7 : decode cL_answer 7 = .ok (.i2l, 1) := by decide +kernel
theorem dL_answer_8 : decode cL_answer 8 = .ok (.lastore, 1) := by decide +kernel
theorem dL_answer_9 : decode cL_answer 9 = .ok (.goto 9, 3) := by decide +kernel
theorem dL_answer_12 : decode cL_answer 12 = .ok (.astore_n 3, 1) := by decide +kernel
theorem dL_answer_13 : decode cL_answer 13 = .ok (.iconst 1, 1) := by decide +kernel
theorem dL_answer_14 : decode cL_answer 14 = .ok (.ireturn, 1) := by decide +kernel
theorem dL_answer_15 : decode cL_answer 15 = .ok (.astore_n 3, 1) := by decide +kernel
theorem dL_answer_16 : decode cL_answer 16 = .ok (.iconst 2, 1) := by decide +kernel
theorem dL_answer_17 : decode cL_answer 17 = .ok (.ireturn, 1) := by decide +kernel
theorem dL_answer_18 : decode cL_answer 18 = .ok (.iconst 0, 1) := by decide +kernel
theorem dL_answer_19 : decode cL_answer 19 = .ok (.ireturn, 1) := by decide +kernel
set_option maxRecDepth 20000 in
theorem ggL_hear_X3_hear : GoodIn wsL_hear wsX3_hear := goodIn_ca (goodIn_ca (goodIn_r _ [7, 8, 9, 10, 11, 12, 13, 14, 15, 16, 6, 17, 18, 19, 20, 21, 22, 23, 24, 25, 26, 27, 28, 29, 30, 31, 32, 33, 34, 35, 36, 37, 38] (by decide +kernel) (by decide +kernel)) (goodIn_sub (fun _ h => List.mem_cons_of_mem _ (List.mem_append_left _ (List.mem_append_right _ h))) (by decide +kernel))) (goodIn_sub (fun _ h => List.mem_cons_of_mem _ (List.mem_append_right _ h)) (by decide +kernel))
set_option maxRecDepth 20000 in
theorem gL_hear_X3_hear : GoodIn wsL_hear (wsV RL 60 RX3 yX3_hear wsX3_hear) := goodIn_app (goodIn_of _ (by decide +kernel)) ggL_hear_X3_hear
theorem dL_hear_0 : decode cL_hear 0 = .ok (.aload_n 0, 1) := by decide +kernel
theorem dL_hear_1 : decode cL_hear 1 = .ok (.iload_n 1, 1) := by decide +kernel
theorem dL_hear_2 : decode cL_hear 2 = .ok (.invokevirtual 60, 3) := by decide +kernel
theorem dL_hear_5 : decode cL_hear 5 = .ok (.goto 9, 3) := by decide +kernel
theorem dL_hear_8 : decode cL_hear 8 = .ok (.astore_n 2, 1) := by decide +kernel
theorem dL_hear_9 : decode cL_hear 9 = .ok (.iconst 1, 1) := by decide +kernel
theorem dL_hear_10 : decode cL_hear 10 = .ok (.ireturn, 1) := by decide +kernel
theorem dL_hear_11 : decode cL_hear 11 = .ok (.astore_n 2, 1) := by decide +kernel
theorem dL_hear_12 : decode cL_hear 12 = .ok (.iconst 2, 1) := by decide +kernel
theorem dL_hear_13 : decode cL_hear 13 = .ok (.ireturn, 1) := by decide +kernel
theorem dL_hear_14 : decode cL_hear 14 = .ok (.iconst 0, 1) := by decide +kernel
theorem dL_hear_15 : decode cL_hear 15 = .ok (.ireturn, 1) := by decide +kernel
set_option maxRecDepth 20000 in
theorem ggL_find_X3_find : GoodIn wsL_find wsX3_find := goodIn_ca (goodIn_ca (goodIn_r _ [7, 8, 9, 10, 11, 12, 13, 14, 15, 16, 17, 6, 18, 19, 20, 21, 22, 23, 24, 25, 26, 27, 28, 29, 30, 31, 32, 33, 34, 35, 36, 37, 38, 39, 40, 41, 42, 43, 44, 45, 46, 47, 48, 49, 50, 51, 52, 53, 54, 55, 56, 57, 58, 59, 60, 61, 62, 63, 64, 65, 66, 67, 68, 69, 70, 71, 72, 73, 74, 75, 76, 77, 78, 79, 80, 81, 82, 83, 84, 85, 86, 87, 88, 89, 90, 91, 92] (by decide +kernel) (by decide +kernel)) (goodIn_sub (fun _ h => List.mem_cons_of_mem _ (List.mem_append_left _ (List.mem_append_right _ h))) (by decide +kernel))) (goodIn_sub (fun _ h => List.mem_cons_of_mem _ (List.mem_append_right _ h)) (by decide +kernel))
set_option maxRecDepth 20000 in
theorem gL_find_X3_find : GoodIn wsL_find (wsV RL 64 RX3 yX3_find wsX3_find) := goodIn_app (goodIn_of _ (by decide +kernel)) ggL_find_X3_find
theorem dL_find_0 : decode cL_find 0 = .ok (.aload_n 2, 1) := by decide +kernel
theorem dL_find_1 : decode cL_find 1 = .ok (.iconst 0, 1) := by decide +kernel
theorem dL_find_2 : decode cL_find 2 = .ok (.aload_n 0, 1) := by decide +kernel
theorem dL_find_3 : decode cL_find 3 = .ok (.iload_n 1, 1) := by decide +kernel
theorem dL_find_4 : decode cL_find 4 = .ok (.invokevirtual 64, 3) := by decide +kernel
theorem dL_find_7 : decode cL_find 7 = .ok (.i2l, 1) := by decide +kernel
theorem dL_find_8 : decode cL_find 8 = .ok (.lastore, 1) := by decide +kernel
theorem dL_find_9 : decode cL_find 9 = .ok (.goto 9, 3) := by decide +kernel
theorem dL_find_12 : decode cL_find 12 = .ok (.astore_n 3, 1) := by decide +kernel
theorem dL_find_13 : decode cL_find 13 = .ok (.iconst 1, 1) := by decide +kernel
theorem dL_find_14 : decode cL_find 14 = .ok (.ireturn, 1) := by decide +kernel
theorem dL_find_15 : decode cL_find 15 = .ok (.astore_n 3, 1) := by decide +kernel
theorem dL_find_16 : decode cL_find 16 = .ok (.iconst 2, 1) := by decide +kernel
theorem dL_find_17 : decode cL_find 17 = .ok (.ireturn, 1) := by decide +kernel
theorem dL_find_18 : decode cL_find 18 = .ok (.iconst 0, 1) := by decide +kernel
theorem dL_find_19 : decode cL_find 19 = .ok (.ireturn, 1) := by decide +kernel
set_option maxRecDepth 20000 in
theorem ggL_remedy_X3_remedy : GoodIn wsL_remedy wsX3_remedy := goodIn_ca (goodIn_ca (goodIn_ca (goodIn_r _ [8, 9, 10, 11, 12, 13, 14, 15, 16, 17, 18, 19, 7, 20, 21, 22, 23, 24, 25, 26, 27, 28, 29, 30, 31, 32, 33, 34, 35, 36, 37, 38, 39, 40, 41, 42, 43, 44, 45, 46, 47, 48, 49, 50, 51, 52, 53, 54, 55, 56, 57, 58, 59, 60, 61, 62, 63, 64, 65, 66, 67, 68, 69, 70, 71, 72, 73, 74, 75, 76, 77, 78, 79, 80, 81, 82, 83, 84, 85, 86, 87, 88, 89, 90, 91, 92, 93, 94, 95, 96, 97, 98, 99, 100, 101, 102, 103, 104] (by decide +kernel) (by decide +kernel)) (goodIn_sub (fun _ h => List.mem_cons_of_mem _ (List.mem_append_left _ (List.mem_append_left _ (List.mem_append_right _ h)))) (by decide +kernel))) (goodIn_sub (fun _ h => List.mem_cons_of_mem _ (List.mem_append_left _ (List.mem_append_right _ h))) (by decide +kernel))) (goodIn_sub (fun _ h => List.mem_cons_of_mem _ (List.mem_append_right _ h)) (by decide +kernel))
set_option maxRecDepth 20000 in
theorem gL_remedy_X3_remedy : GoodIn wsL_remedy (wsV RL 67 RX3 yX3_remedy wsX3_remedy) := goodIn_app (goodIn_of _ (by decide +kernel)) ggL_remedy_X3_remedy
theorem dL_remedy_0 : decode cL_remedy 0 = .ok (.aload_n 3, 1) := by decide +kernel
theorem dL_remedy_1 : decode cL_remedy 1 = .ok (.iconst 0, 1) := by decide +kernel
theorem dL_remedy_2 : decode cL_remedy 2 = .ok (.aload_n 0, 1) := by decide +kernel
theorem dL_remedy_3 : decode cL_remedy 3 = .ok (.iload_n 1, 1) := by decide +kernel
theorem dL_remedy_4 : decode cL_remedy 4 = .ok (.iload_n 2, 1) := by decide +kernel
theorem dL_remedy_5 : decode cL_remedy 5 = .ok (.invokevirtual 67, 3) := by decide +kernel
theorem dL_remedy_8 : decode cL_remedy 8 = .ok (.i2l, 1) := by decide +kernel
theorem dL_remedy_9 : decode cL_remedy 9 = .ok (.lastore, 1) := by decide +kernel
theorem dL_remedy_10 : decode cL_remedy 10 = .ok (.goto 15, 3) := by decide +kernel
theorem dL_remedy_13 : decode cL_remedy 13 = .ok (.astore 4, 2) := by decide +kernel
theorem dL_remedy_15 : decode cL_remedy 15 = .ok (.iconst 1, 1) := by decide +kernel
theorem dL_remedy_16 : decode cL_remedy 16 = .ok (.ireturn, 1) := by decide +kernel
theorem dL_remedy_17 : decode cL_remedy 17 = .ok (.astore 4, 2) := by decide +kernel
theorem dL_remedy_19 : decode cL_remedy 19 = .ok (.iconst 2, 1) := by decide +kernel
theorem dL_remedy_20 : decode cL_remedy 20 = .ok (.ireturn, 1) := by decide +kernel
theorem dL_remedy_21 : decode cL_remedy 21 = .ok (.astore 4, 2) := by decide +kernel
theorem dL_remedy_23 : decode cL_remedy 23 = .ok (.iconst 3, 1) := by decide +kernel
theorem dL_remedy_24 : decode cL_remedy 24 = .ok (.ireturn, 1) := by decide +kernel
theorem dL_remedy_25 : decode cL_remedy 25 = .ok (.iconst 0, 1) := by decide +kernel
theorem dL_remedy_26 : decode cL_remedy 26 = .ok (.ireturn, 1) := by decide +kernel
set_option maxRecDepth 20000 in
theorem ggL_pass_X3_pass : GoodIn wsL_pass wsX3_pass := goodIn_ca (goodIn_ca (goodIn_r _ [7, 8, 9, 10, 11, 12, 13, 14, 6, 15, 16, 17, 18, 19, 20, 21, 22, 23, 24, 25, 26, 27, 28, 29, 30, 31, 32, 33, 34, 35, 36, 37, 38, 39, 40, 41, 42, 43, 44, 45, 46, 47, 48] (by decide +kernel) (by decide +kernel)) (goodIn_sub (fun _ h => List.mem_cons_of_mem _ (List.mem_append_left _ (List.mem_append_right _ h))) (by decide +kernel))) (goodIn_sub (fun _ h => List.mem_cons_of_mem _ (List.mem_append_right _ h)) (by decide +kernel))
set_option maxRecDepth 20000 in
theorem gL_pass_X3_pass : GoodIn wsL_pass (wsV RL 70 RX3 yX3_pass wsX3_pass) := goodIn_app (goodIn_of _ (by decide +kernel)) ggL_pass_X3_pass
theorem dL_pass_0 : decode cL_pass 0 = .ok (.aload_n 2, 1) := by decide +kernel
theorem dL_pass_1 : decode cL_pass 1 = .ok (.iconst 0, 1) := by decide +kernel
theorem dL_pass_2 : decode cL_pass 2 = .ok (.aload_n 0, 1) := by decide +kernel
theorem dL_pass_3 : decode cL_pass 3 = .ok (.iload_n 1, 1) := by decide +kernel
theorem dL_pass_4 : decode cL_pass 4 = .ok (.invokevirtual 70, 3) := by decide +kernel
theorem dL_pass_7 : decode cL_pass 7 = .ok (.i2l, 1) := by decide +kernel
theorem dL_pass_8 : decode cL_pass 8 = .ok (.lastore, 1) := by decide +kernel
theorem dL_pass_9 : decode cL_pass 9 = .ok (.goto 9, 3) := by decide +kernel
theorem dL_pass_12 : decode cL_pass 12 = .ok (.astore_n 3, 1) := by decide +kernel
theorem dL_pass_13 : decode cL_pass 13 = .ok (.iconst 1, 1) := by decide +kernel
theorem dL_pass_14 : decode cL_pass 14 = .ok (.ireturn, 1) := by decide +kernel
theorem dL_pass_15 : decode cL_pass 15 = .ok (.astore_n 3, 1) := by decide +kernel
theorem dL_pass_16 : decode cL_pass 16 = .ok (.iconst 2, 1) := by decide +kernel
theorem dL_pass_17 : decode cL_pass 17 = .ok (.ireturn, 1) := by decide +kernel
theorem dL_pass_18 : decode cL_pass 18 = .ok (.iconst 0, 1) := by decide +kernel
theorem dL_pass_19 : decode cL_pass 19 = .ok (.ireturn, 1) := by decide +kernel
set_option maxRecDepth 20000 in
theorem ggL_about_X3_about : GoodIn wsL_about wsX3_about := goodIn_ca (goodIn_ca (goodIn_r _ [7, 8, 9, 10, 11, 12, 13, 14, 15, 16, 17, 6, 18, 19, 20, 21, 22, 23, 24, 25, 26, 27, 28, 29, 30, 31, 32, 33, 34, 35, 36, 37, 38, 39, 40, 41, 42, 43, 44, 45, 46, 47, 48, 49, 50, 51] (by decide +kernel) (by decide +kernel)) (goodIn_sub (fun _ h => List.mem_cons_of_mem _ (List.mem_append_left _ (List.mem_append_right _ h))) (by decide +kernel))) (goodIn_sub (fun _ h => List.mem_cons_of_mem _ (List.mem_append_right _ h)) (by decide +kernel))
set_option maxRecDepth 20000 in
theorem gL_about_X3_about : GoodIn wsL_about (wsV RL 73 RX3 yX3_about wsX3_about) := goodIn_app (goodIn_of _ (by decide +kernel)) ggL_about_X3_about
theorem dL_about_0 : decode cL_about 0 = .ok (.aload_n 3, 1) := by decide +kernel
theorem dL_about_1 : decode cL_about 1 = .ok (.iconst 0, 1) := by decide +kernel
theorem dL_about_2 : decode cL_about 2 = .ok (.aload_n 0, 1) := by decide +kernel
theorem dL_about_3 : decode cL_about 3 = .ok (.iload_n 1, 1) := by decide +kernel
theorem dL_about_4 : decode cL_about 4 = .ok (.iload_n 2, 1) := by decide +kernel
theorem dL_about_5 : decode cL_about 5 = .ok (.invokevirtual 73, 3) := by decide +kernel
theorem dL_about_8 : decode cL_about 8 = .ok (.i2l, 1) := by decide +kernel
theorem dL_about_9 : decode cL_about 9 = .ok (.lastore, 1) := by decide +kernel
theorem dL_about_10 : decode cL_about 10 = .ok (.goto 11, 3) := by decide +kernel
theorem dL_about_13 : decode cL_about 13 = .ok (.astore 4, 2) := by decide +kernel
theorem dL_about_15 : decode cL_about 15 = .ok (.iconst 1, 1) := by decide +kernel
theorem dL_about_16 : decode cL_about 16 = .ok (.ireturn, 1) := by decide +kernel
theorem dL_about_17 : decode cL_about 17 = .ok (.astore 4, 2) := by decide +kernel
theorem dL_about_19 : decode cL_about 19 = .ok (.iconst 2, 1) := by decide +kernel
theorem dL_about_20 : decode cL_about 20 = .ok (.ireturn, 1) := by decide +kernel
theorem dL_about_21 : decode cL_about 21 = .ok (.iconst 0, 1) := by decide +kernel
theorem dL_about_22 : decode cL_about 22 = .ok (.ireturn, 1) := by decide +kernel
set_option maxRecDepth 20000 in
theorem ggL_reminder_X3_reminder : GoodIn wsL_reminder wsX3_reminder := goodIn_ca (goodIn_r _ [6, 7, 8, 9, 10, 11, 12, 13, 14, 15, 16, 5, 17, 18, 19, 20, 21, 22, 23, 24, 25, 26, 27, 28, 29, 30, 31, 32, 33, 34, 35, 36, 37, 38, 39, 40, 41, 42, 43, 44, 45, 46, 47, 48, 49, 50, 51, 52] (by decide +kernel) (by decide +kernel)) (goodIn_sub (fun _ h => List.mem_cons_of_mem _ (List.mem_append_right _ h)) (by decide +kernel))
set_option maxRecDepth 20000 in
theorem gL_reminder_X3_reminder : GoodIn wsL_reminder (wsV RL 76 RX3 yX3_reminder wsX3_reminder) := goodIn_app (goodIn_of _ (by decide +kernel)) ggL_reminder_X3_reminder
theorem dL_reminder_0 : decode cL_reminder 0 = .ok (.aload_n 2, 1) := by decide +kernel
theorem dL_reminder_1 : decode cL_reminder 1 = .ok (.iconst 0, 1) := by decide +kernel
theorem dL_reminder_2 : decode cL_reminder 2 = .ok (.aload_n 0, 1) := by decide +kernel
theorem dL_reminder_3 : decode cL_reminder 3 = .ok (.iload_n 1, 1) := by decide +kernel
theorem dL_reminder_4 : decode cL_reminder 4 = .ok (.invokevirtual 76, 3) := by decide +kernel
theorem dL_reminder_7 : decode cL_reminder 7 = .ok (.i2l, 1) := by decide +kernel
theorem dL_reminder_8 : decode cL_reminder 8 = .ok (.lastore, 1) := by decide +kernel
theorem dL_reminder_9 : decode cL_reminder 9 = .ok (.goto 6, 3) := by decide +kernel
theorem dL_reminder_12 : decode cL_reminder 12 = .ok (.astore_n 3, 1) := by decide +kernel
theorem dL_reminder_13 : decode cL_reminder 13 = .ok (.iconst 1, 1) := by decide +kernel
theorem dL_reminder_14 : decode cL_reminder 14 = .ok (.ireturn, 1) := by decide +kernel
theorem dL_reminder_15 : decode cL_reminder 15 = .ok (.iconst 0, 1) := by decide +kernel
theorem dL_reminder_16 : decode cL_reminder 16 = .ok (.ireturn, 1) := by decide +kernel
set_option maxRecDepth 20000 in
theorem ggL_fault_X3_fault : GoodIn wsL_fault wsX3_fault := goodIn_ca (goodIn_r _ [6, 7, 8, 9, 5, 10, 11, 12, 13, 14, 15, 16, 17, 18, 19, 20, 21, 22, 23, 24, 25, 26, 27, 28, 29, 30, 31, 32, 33, 34, 35, 36, 37, 38, 39, 40, 41, 42, 43, 44, 45, 46, 47, 48, 49, 50, 51, 52, 53, 54, 55, 56, 57, 58, 59, 60, 61, 62, 63, 64, 65, 66, 67, 68, 69, 70, 71, 72, 73, 74, 75] (by decide +kernel) (by decide +kernel)) (goodIn_sub (fun _ h => List.mem_cons_of_mem _ (List.mem_append_right _ h)) (by decide +kernel))
set_option maxRecDepth 20000 in
theorem gL_fault_X3_fault : GoodIn wsL_fault (wsV RL 79 RX3 yX3_fault wsX3_fault) := goodIn_app (goodIn_of _ (by decide +kernel)) ggL_fault_X3_fault
theorem dL_fault_0 : decode cL_fault 0 = .ok (.aload_n 2, 1) := by decide +kernel
theorem dL_fault_1 : decode cL_fault 1 = .ok (.iconst 0, 1) := by decide +kernel
theorem dL_fault_2 : decode cL_fault 2 = .ok (.aload_n 0, 1) := by decide +kernel
theorem dL_fault_3 : decode cL_fault 3 = .ok (.iload_n 1, 1) := by decide +kernel
theorem dL_fault_4 : decode cL_fault 4 = .ok (.invokevirtual 79, 3) := by decide +kernel
theorem dL_fault_7 : decode cL_fault 7 = .ok (.i2l, 1) := by decide +kernel
theorem dL_fault_8 : decode cL_fault 8 = .ok (.lastore, 1) := by decide +kernel
theorem dL_fault_9 : decode cL_fault 9 = .ok (.goto 6, 3) := by decide +kernel
theorem dL_fault_12 : decode cL_fault 12 = .ok (.astore_n 3, 1) := by decide +kernel
theorem dL_fault_13 : decode cL_fault 13 = .ok (.iconst 1, 1) := by decide +kernel
theorem dL_fault_14 : decode cL_fault 14 = .ok (.ireturn, 1) := by decide +kernel
theorem dL_fault_15 : decode cL_fault 15 = .ok (.iconst 0, 1) := by decide +kernel
theorem dL_fault_16 : decode cL_fault 16 = .ok (.ireturn, 1) := by decide +kernel
set_option maxRecDepth 20000 in
theorem ggL_likes_X3_likes : GoodIn wsL_likes wsX3_likes := goodIn_ca (goodIn_r _ [6, 7, 8, 9, 5, 10, 11, 12, 13, 14, 15, 16, 17, 18, 19, 20, 21, 22, 23, 24, 25, 26, 27, 28, 29, 30, 31, 32, 33, 34, 35, 36, 37, 38, 39, 40, 41, 42, 43] (by decide +kernel) (by decide +kernel)) (goodIn_sub (fun _ h => List.mem_cons_of_mem _ (List.mem_append_right _ h)) (by decide +kernel))
set_option maxRecDepth 20000 in
theorem gL_likes_X3_likes : GoodIn wsL_likes (wsV RL 82 RX3 yX3_likes wsX3_likes) := goodIn_app (goodIn_of _ (by decide +kernel)) ggL_likes_X3_likes
theorem dL_likes_0 : decode cL_likes 0 = .ok (.aload_n 2, 1) := by decide +kernel
theorem dL_likes_1 : decode cL_likes 1 = .ok (.iconst 0, 1) := by decide +kernel
theorem dL_likes_2 : decode cL_likes 2 = .ok (.aload_n 0, 1) := by decide +kernel
theorem dL_likes_3 : decode cL_likes 3 = .ok (.iload_n 1, 1) := by decide +kernel
theorem dL_likes_4 : decode cL_likes 4 = .ok (.invokevirtual 82, 3) := by decide +kernel
theorem dL_likes_7 : decode cL_likes 7 = .ok (.i2l, 1) := by decide +kernel
theorem dL_likes_8 : decode cL_likes 8 = .ok (.lastore, 1) := by decide +kernel
theorem dL_likes_9 : decode cL_likes 9 = .ok (.goto 6, 3) := by decide +kernel
theorem dL_likes_12 : decode cL_likes 12 = .ok (.astore_n 3, 1) := by decide +kernel
theorem dL_likes_13 : decode cL_likes 13 = .ok (.iconst 1, 1) := by decide +kernel
theorem dL_likes_14 : decode cL_likes 14 = .ok (.ireturn, 1) := by decide +kernel
theorem dL_likes_15 : decode cL_likes 15 = .ok (.iconst 0, 1) := by decide +kernel
theorem dL_likes_16 : decode cL_likes 16 = .ok (.ireturn, 1) := by decide +kernel
set_option maxRecDepth 20000 in
theorem ggL_remedied_X3_remedied : GoodIn wsL_remedied wsX3_remedied := goodIn_ca (goodIn_r _ [6, 7, 8, 9, 10, 11, 5, 12, 13, 14, 15, 16, 17, 18, 19, 20, 21, 22, 23, 24, 25, 26, 27, 28, 29, 30, 31, 32, 33, 34] (by decide +kernel) (by decide +kernel)) (goodIn_sub (fun _ h => List.mem_cons_of_mem _ (List.mem_append_right _ h)) (by decide +kernel))
set_option maxRecDepth 20000 in
theorem gL_remedied_X3_remedied : GoodIn wsL_remedied (wsV RL 85 RX3 yX3_remedied wsX3_remedied) := goodIn_app (goodIn_of _ (by decide +kernel)) ggL_remedied_X3_remedied
theorem dL_remedied_0 : decode cL_remedied 0 = .ok (.aload_n 2, 1) := by decide +kernel
theorem dL_remedied_1 : decode cL_remedied 1 = .ok (.iconst 0, 1) := by decide +kernel
theorem dL_remedied_2 : decode cL_remedied 2 = .ok (.aload_n 0, 1) := by decide +kernel
theorem dL_remedied_3 : decode cL_remedied 3 = .ok (.iload_n 1, 1) := by decide +kernel
theorem dL_remedied_4 : decode cL_remedied 4 = .ok (.invokevirtual 85, 3) := by decide +kernel
theorem dL_remedied_7 : decode cL_remedied 7 = .ok (.i2l, 1) := by decide +kernel
theorem dL_remedied_8 : decode cL_remedied 8 = .ok (.lastore, 1) := by decide +kernel
theorem dL_remedied_9 : decode cL_remedied 9 = .ok (.goto 6, 3) := by decide +kernel
theorem dL_remedied_12 : decode cL_remedied 12 = .ok (.astore_n 3, 1) := by decide +kernel
theorem dL_remedied_13 : decode cL_remedied 13 = .ok (.iconst 1, 1) := by decide +kernel
theorem dL_remedied_14 : decode cL_remedied 14 = .ok (.ireturn, 1) := by decide +kernel
theorem dL_remedied_15 : decode cL_remedied 15 = .ok (.iconst 0, 1) := by decide +kernel
theorem dL_remedied_16 : decode cL_remedied 16 = .ok (.ireturn, 1) := by decide +kernel
set_option maxRecDepth 20000 in
theorem ggL_gains_X3_gains : GoodIn wsL_gains wsX3_gains := goodIn_ca (goodIn_ca (goodIn_r _ [7, 8, 9, 10, 11, 12, 13, 6, 14, 15, 16, 17, 18, 19, 20, 21, 22, 23, 24, 25, 26, 27, 28, 29, 30, 31, 32, 33, 34, 35, 36, 37, 38, 39, 40, 41, 42, 43, 44, 45, 46, 47, 48, 49, 50, 51, 52, 53, 54, 55, 56, 57, 58, 59, 60] (by decide +kernel) (by decide +kernel)) (goodIn_sub (fun _ h => List.mem_cons_of_mem _ (List.mem_append_left _ (List.mem_append_right _ h))) (by decide +kernel))) (goodIn_sub (fun _ h => List.mem_cons_of_mem _ (List.mem_append_right _ h)) (by decide +kernel))
set_option maxRecDepth 20000 in
theorem gL_gains_X3_gains : GoodIn wsL_gains (wsV RL 88 RX3 yX3_gains wsX3_gains) := goodIn_app (goodIn_of _ (by decide +kernel)) ggL_gains_X3_gains
theorem dL_gains_0 : decode cL_gains 0 = .ok (.aload_n 3, 1) := by decide +kernel
theorem dL_gains_1 : decode cL_gains 1 = .ok (.iconst 0, 1) := by decide +kernel
theorem dL_gains_2 : decode cL_gains 2 = .ok (.aload_n 0, 1) := by decide +kernel
theorem dL_gains_3 : decode cL_gains 3 = .ok (.iload_n 1, 1) := by decide +kernel
theorem dL_gains_4 : decode cL_gains 4 = .ok (.iload_n 2, 1) := by decide +kernel
theorem dL_gains_5 : decode cL_gains 5 = .ok (.invokevirtual 88, 3) := by decide +kernel
theorem dL_gains_8 : decode cL_gains 8 = .ok (.i2l, 1) := by decide +kernel
theorem dL_gains_9 : decode cL_gains 9 = .ok (.lastore, 1) := by decide +kernel
theorem dL_gains_10 : decode cL_gains 10 = .ok (.goto 11, 3) := by decide +kernel
theorem dL_gains_13 : decode cL_gains 13 = .ok (.astore 4, 2) := by decide +kernel
theorem dL_gains_15 : decode cL_gains 15 = .ok (.iconst 1, 1) := by decide +kernel
theorem dL_gains_16 : decode cL_gains 16 = .ok (.ireturn, 1) := by decide +kernel
theorem dL_gains_17 : decode cL_gains 17 = .ok (.astore 4, 2) := by decide +kernel
theorem dL_gains_19 : decode cL_gains 19 = .ok (.iconst 2, 1) := by decide +kernel
theorem dL_gains_20 : decode cL_gains 20 = .ok (.ireturn, 1) := by decide +kernel
theorem dL_gains_21 : decode cL_gains 21 = .ok (.iconst 0, 1) := by decide +kernel
theorem dL_gains_22 : decode cL_gains 22 = .ok (.ireturn, 1) := by decide +kernel
set_option maxRecDepth 20000 in
theorem ggL_law_X3_init : GoodIn wsL_law wsX3_init := goodIn_r _ [9, 10, 11, 12, 13, 14, 15, 16, 17, 18, 19, 20, 21, 22, 23, 24, 25, 26, 27, 28, 29, 30, 31, 32, 33, 34, 35, 36, 37, 38, 39, 40, 41, 42, 43, 44, 45, 46, 604, 605, 606, 607, 608, 609, 610, 611, 612, 613, 614, 642, 643, 644, 645, 646, 647, 648, 649, 650, 651, 652, 653, 654, 655, 656, 657, 658, 659, 660, 661, 662] (by decide +kernel) (by decide +kernel)
set_option maxRecDepth 20000 in
theorem gL_law_X3_init : GoodIn wsL_law (wsX3_init) := ggL_law_X3_init
set_option maxRecDepth 20000 in
theorem ggL_law_X4_init : GoodIn wsL_law wsX4_init := goodIn_r _ [49, 50, 11, 12, 15, 51, 52, 53, 54, 55, 56, 57, 58, 59, 60, 61, 62, 63, 64, 65, 66, 67, 68, 69, 70, 71, 72, 73, 615, 616, 617, 618, 619, 620, 621, 622, 623, 624, 625, 626, 627, 628, 629, 630, 631, 632, 633, 634, 635, 636, 637, 638, 639, 640, 641] (by decide +kernel) (by decide +kernel)
set_option maxRecDepth 20000 in
theorem gL_law_X4_init : GoodIn wsL_law (wsX4_init) := ggL_law_X4_init
set_option maxRecDepth 20000 in
theorem ggL_law_L_letter : GoodIn wsL_law wsL_letter := goodIn_ca (goodIn_ca (goodIn_r _ [77, 78, 79, 80, 81, 82, 2, 83, 84, 85, 86, 87, 88, 14, 604, 605, 606, 607, 608, 609, 610, 611, 612, 613, 614] (by decide +kernel) (by decide +kernel)) (goodIn_sub (fun _ h => List.mem_append_left _ (List.mem_append_left _ (List.mem_append_right _ h))) (by decide +kernel))) (goodIn_sub (fun _ h => List.mem_append_left _ (List.mem_append_right _ h)) (by decide +kernel))
set_option maxRecDepth 20000 in
theorem gL_law_L_letter : GoodIn wsL_law (va_wsS RL 95 yL_letter wsL_letter) := goodIn_app (goodIn_of _ (by decide +kernel)) ggL_law_L_letter
set_option maxRecDepth 20000 in
theorem ggL_law_X4_letter : GoodIn wsL_law wsX4_letter := goodIn_r _ [92, 93, 51, 94, 95, 5, 96, 97, 98, 99, 100, 101, 102, 103, 104, 105, 615, 616, 617, 618, 619, 620, 621, 622, 623, 624, 625, 626, 627, 628, 629, 630, 631, 632, 633, 634, 635, 636, 637, 638, 639, 640, 641] (by decide +kernel) (by decide +kernel)
set_option maxRecDepth 20000 in
theorem gL_law_X4_letter : GoodIn wsL_law (wsV RL 100 RX4 yX4_letter wsX4_letter) := goodIn_app (goodIn_of _ (by decide +kernel)) ggL_law_X4_letter
set_option maxRecDepth 20000 in
theorem ggL_law_X4_thrown : GoodIn wsL_law wsX4_thrown := goodIn_r _ [109, 101, 615, 616, 617, 618, 619, 620, 621, 622, 623, 624, 625, 626, 627, 628, 629, 630, 631, 632, 633, 634, 635, 636, 637, 638, 639, 640, 641] (by decide +kernel) (by decide +kernel)
set_option maxRecDepth 20000 in
theorem gL_law_X4_thrown : GoodIn wsL_law (wsV RL 101 RX4 yX4_thrown wsX4_thrown) := goodIn_app (goodIn_of _ (by decide +kernel)) ggL_law_X4_thrown
set_option maxRecDepth 20000 in
theorem ggL_law_L_office : GoodIn wsL_law wsL_office := goodIn_ca (goodIn_ca (goodIn_r _ [112, 113, 79, 114, 115, 116, 2, 117, 86, 87, 118, 16, 119, 120, 121, 122, 123, 604, 605, 606, 607, 608, 609, 610, 611, 612, 613, 614] (by decide +kernel) (by decide +kernel)) (goodIn_sub (fun _ h => List.mem_append_left _ (List.mem_append_right _ h)) (by decide +kernel))) (goodIn_sub (fun _ h => List.mem_append_right _ h) (by decide +kernel))
set_option maxRecDepth 20000 in
theorem gL_law_L_office : GoodIn wsL_law (va_wsS RL 105 yL_office wsL_office) := goodIn_app (goodIn_of _ (by decide +kernel)) ggL_law_L_office
set_option maxRecDepth 20000 in
theorem ggL_law_X4_office : GoodIn wsL_law wsX4_office := goodIn_r _ [127, 128, 52, 129, 130, 131, 5, 132, 94, 95, 96, 97, 98, 99, 100, 101, 102, 103, 104, 105, 615, 616, 617, 618, 619, 620, 621, 622, 623, 624, 625, 626, 627, 628, 629, 630, 631, 632, 633, 634, 635, 636, 637, 638, 639, 640, 641] (by decide +kernel) (by decide +kernel)
set_option maxRecDepth 20000 in
theorem gL_law_X4_office : GoodIn wsL_law (wsV RL 108 RX4 yX4_office wsX4_office) := goodIn_app (goodIn_of _ (by decide +kernel)) ggL_law_X4_office
set_option maxRecDepth 20000 in
theorem ggL_law_L_delegate : GoodIn wsL_law wsL_delegate := goodIn_ca (goodIn_ca (goodIn_r _ [135, 113, 78, 136, 137, 138, 2, 139, 84, 85, 118, 20, 140, 119, 120, 121, 122, 123, 141, 142, 143, 19, 144, 145, 34, 35, 36, 146, 147, 148, 149, 604, 605, 606, 607, 608, 609, 610, 611, 612, 613, 614, 642, 643, 644, 645] (by decide +kernel) (by decide +kernel)) (goodIn_sub (fun _ h => List.mem_append_left _ (List.mem_append_left _ (List.mem_append_right _ h))) (by decide +kernel))) (goodIn_sub (fun _ h => List.mem_append_right _ h) (by decide +kernel))
set_option maxRecDepth 20000 in
theorem gL_law_L_delegate : GoodIn wsL_law (va_wsS RL 109 yL_delegate wsL_delegate) := goodIn_app (goodIn_of _ (by decide +kernel)) ggL_law_L_delegate
set_option maxRecDepth 20000 in
theorem ggL_law_X4_delegate : GoodIn wsL_law wsX4_delegate := goodIn_r _ [153, 54, 154, 129, 130, 131, 5, 132, 128, 94, 95, 96, 97, 98, 99, 100, 101, 102, 103, 104, 105, 615, 616, 617, 618, 619, 620, 621, 622, 623, 624, 625, 626, 627, 628, 629, 630, 631, 632, 633, 634, 635, 636, 637, 638, 639, 640, 641] (by decide +kernel) (by decide +kernel)
set_option maxRecDepth 20000 in
theorem gL_law_X4_delegate : GoodIn wsL_law (wsV RL 112 RX4 yX4_delegate wsX4_delegate) := goodIn_app (goodIn_of _ (by decide +kernel)) ggL_law_X4_delegate
set_option maxRecDepth 20000 in
theorem ggL_law_L_whose : GoodIn wsL_law wsL_whose := goodIn_ca (goodIn_ca (goodIn_r _ [157, 113, 78, 158, 159, 160, 2, 161, 118, 140, 119, 120, 121, 122, 123, 162, 163, 164, 84, 85, 165, 166, 167, 168, 20, 141, 142, 143, 19, 144, 145, 34, 35, 36, 604, 605, 606, 607, 608, 609, 610, 611, 612, 613, 614, 642, 643, 644, 645] (by decide +kernel) (by decide +kernel)) (goodIn_sub (fun _ h => List.mem_append_right _ h) (by decide +kernel))) (goodIn_sub (fun _ h => List.mem_append_left _ (List.mem_append_left _ (List.mem_append_right _ h))) (by decide +kernel))
set_option maxRecDepth 20000 in
theorem gL_law_L_whose : GoodIn wsL_law (va_wsS RL 113 yL_whose wsL_whose) := goodIn_app (goodIn_of _ (by decide +kernel)) ggL_law_L_whose
set_option maxRecDepth 20000 in
theorem ggL_law_X4_whose : GoodIn wsL_law wsX4_whose := goodIn_r _ [172, 154, 129, 130, 131, 5, 132, 128, 94, 95, 96, 97, 98, 99, 100, 101, 173, 174, 175, 176, 54, 102, 103, 104, 105, 615, 616, 617, 618, 619, 620, 621, 622, 623, 624, 625, 626, 627, 628, 629, 630, 631, 632, 633, 634, 635, 636, 637, 638, 639, 640, 641] (by decide +kernel) (by decide +kernel)
set_option maxRecDepth 20000 in
theorem gL_law_X4_whose : GoodIn wsL_law (wsV RL 115 RX4 yX4_whose wsX4_whose) := goodIn_app (goodIn_of _ (by decide +kernel)) ggL_law_X4_whose
set_option maxRecDepth 20000 in
theorem ggL_law_L_limit : GoodIn wsL_law wsL_limit := goodIn_ca (goodIn_ca (goodIn_r _ [179, 113, 78, 180, 181, 182, 2, 183, 21, 140, 119, 120, 121, 122, 123, 162, 163, 164, 84, 85, 141, 142, 143, 19, 144, 145, 34, 35, 36, 146, 147, 148, 149, 604, 605, 606, 607, 608, 609, 610, 611, 612, 613, 614, 642, 643, 644, 645] (by decide +kernel) (by decide +kernel)) (goodIn_sub (fun _ h => List.mem_append_right _ h) (by decide +kernel))) (goodIn_sub (fun _ h => List.mem_append_left _ (List.mem_append_left _ (List.mem_append_right _ h))) (by decide +kernel))
set_option maxRecDepth 20000 in
theorem gL_law_L_limit : GoodIn wsL_law (va_wsS RL 116 yL_limit wsL_limit) := goodIn_app (goodIn_of _ (by decide +kernel)) ggL_law_L_limit
set_option maxRecDepth 20000 in
theorem ggL_law_X4_limit : GoodIn wsL_law wsX4_limit := goodIn_r _ [187, 55, 154, 188, 189, 5, 190, 94, 95, 96, 97, 98, 99, 100, 101, 102, 103, 104, 105, 615, 616, 617, 618, 619, 620, 621, 622, 623, 624, 625, 626, 627, 628, 629, 630, 631, 632, 633, 634, 635, 636, 637, 638, 639, 640, 641] (by decide +kernel) (by decide +kernel)
set_option maxRecDepth 20000 in
theorem gL_law_X4_limit : GoodIn wsL_law (wsV RL 118 RX4 yX4_limit wsX4_limit) := goodIn_app (goodIn_of _ (by decide +kernel)) ggL_law_X4_limit
set_option maxRecDepth 20000 in
theorem ggL_law_L_act : GoodIn wsL_law wsL_act := goodIn_ca (goodIn_ca (goodIn_ca (goodIn_r _ [193, 113, 78, 79, 194, 195, 196, 2, 197, 86, 87, 118, 198, 88, 23, 140, 119, 120, 121, 122, 123, 162, 163, 164, 84, 85, 199, 200, 201, 202, 203, 204, 205, 206, 207, 208, 209, 14, 210, 211, 212, 213, 214, 215, 216, 217, 218, 219, 220, 221, 222, 223, 224, 225, 226, 227, 228, 229, 230, 231, 232, 233, 234, 235, 236, 237, 238, 239, 240, 241, 242, 243, 244, 245, 246, 247, 248, 249, 250, 251, 252, 253, 254, 255, 256, 257, 258, 165, 166, 167, 168, 20, 141, 142, 143, 19, 144, 145, 34, 35, 36, 259, 260, 261, 25, 262, 263, 264, 265, 266, 267, 604, 605, 606, 607, 608, 609, 610, 611, 612, 613, 614, 642, 643, 644, 645, 646, 647, 648, 649, 650, 651, 652, 653, 654] (by decide +kernel) (by decide +kernel)) (goodIn_sub (fun _ h => List.mem_append_left _ (List.mem_append_right _ h)) (by decide +kernel))) (goodIn_sub (fun _ h => List.mem_append_right _ h) (by decide +kernel))) (goodIn_sub (fun _ h => List.mem_append_left _ (List.mem_append_left _ (List.mem_append_right _ h))) (by decide +kernel))
set_option maxRecDepth 20000 in
theorem gL_law_L_act : GoodIn wsL_law (va_wsS RL 119 yL_act wsL_act) := goodIn_app (goodIn_of _ (by decide +kernel)) ggL_law_L_act
set_option maxRecDepth 20000 in
theorem ggL_law_X4_act : GoodIn wsL_law wsX4_act := goodIn_r _ [271, 272, 93, 56, 154, 57, 58, 59, 60, 129, 130, 131, 5, 132, 128, 94, 95, 96, 97, 98, 99, 100, 101, 102, 103, 104, 105, 273, 274, 275, 276, 51, 173, 174, 175, 176, 54, 615, 616, 617, 618, 619, 620, 621, 622, 623, 624, 625, 626, 627, 628, 629, 630, 631, 632, 633, 634, 635, 636, 637, 638, 639, 640, 641] (by decide +kernel) (by decide +kernel)
set_option maxRecDepth 20000 in
theorem gL_law_X4_act : GoodIn wsL_law (wsV RL 122 RX4 yX4_act wsX4_act) := goodIn_app (goodIn_of _ (by decide +kernel)) ggL_law_X4_act
set_option maxRecDepth 20000 in
theorem ggL_law_L_court : GoodIn wsL_law wsL_court := goodIn_ca (goodIn_r _ [279, 113, 280, 281, 282, 2, 283, 198, 23, 284, 119, 120, 121, 122, 123, 604, 605, 606, 607, 608, 609, 610, 611, 612, 613, 614, 646, 647, 648, 649, 650, 651, 652, 653, 654] (by decide +kernel) (by decide +kernel)) (goodIn_sub (fun _ h => List.mem_append_right _ h) (by decide +kernel))
set_option maxRecDepth 20000 in
theorem gL_law_L_court : GoodIn wsL_law (va_wsS RL 123 yL_court wsL_court) := goodIn_app (goodIn_of _ (by decide +kernel)) ggL_law_L_court
set_option maxRecDepth 20000 in
theorem ggL_law_X4_court : GoodIn wsL_law wsX4_court := goodIn_r _ [288, 62, 289, 290, 291, 5, 292, 272, 94, 95, 96, 97, 98, 99, 100, 101, 615, 616, 617, 618, 619, 620, 621, 622, 623, 624, 625, 626, 627, 628, 629, 630, 631, 632, 633, 634, 635, 636, 637, 638, 639, 640, 641] (by decide +kernel) (by decide +kernel)
set_option maxRecDepth 20000 in
theorem gL_law_X4_court : GoodIn wsL_law (wsV RL 126 RX4 yX4_court wsX4_court) := goodIn_app (goodIn_of _ (by decide +kernel)) ggL_law_X4_court
set_option maxRecDepth 20000 in
theorem ggL_law_L_waive : GoodIn wsL_law wsL_waive := goodIn_ca (goodIn_r _ [295, 113, 296, 297, 298, 2, 299, 198, 23, 300, 119, 120, 121, 122, 123, 604, 605, 606, 607, 608, 609, 610, 611, 612, 613, 614, 646, 647, 648, 649, 650, 651, 652, 653, 654] (by decide +kernel) (by decide +kernel)) (goodIn_sub (fun _ h => List.mem_append_right _ h) (by decide +kernel))
set_option maxRecDepth 20000 in
theorem gL_law_L_waive : GoodIn wsL_law (va_wsS RL 127 yL_waive wsL_waive) := goodIn_app (goodIn_of _ (by decide +kernel)) ggL_law_L_waive
set_option maxRecDepth 20000 in
theorem ggL_law_X4_waive : GoodIn wsL_law wsX4_waive := goodIn_r _ [304, 63, 289, 290, 291, 5, 292, 272, 94, 95, 96, 97, 98, 99, 100, 101, 615, 616, 617, 618, 619, 620, 621, 622, 623, 624, 625, 626, 627, 628, 629, 630, 631, 632, 633, 634, 635, 636, 637, 638, 639, 640, 641] (by decide +kernel) (by decide +kernel)
set_option maxRecDepth 20000 in
theorem gL_law_X4_waive : GoodIn wsL_law (wsV RL 129 RX4 yX4_waive wsX4_waive) := goodIn_app (goodIn_of _ (by decide +kernel)) ggL_law_X4_waive
set_option maxRecDepth 20000 in
theorem ggL_law_L_plea : GoodIn wsL_law wsL_plea := goodIn_ca (goodIn_ca (goodIn_r _ [307, 113, 79, 308, 309, 310, 2, 311, 86, 87, 198, 23, 312, 140, 119, 120, 121, 122, 123, 604, 605, 606, 607, 608, 609, 610, 611, 612, 613, 614, 646, 647, 648, 649, 650, 651, 652, 653, 654] (by decide +kernel) (by decide +kernel)) (goodIn_sub (fun _ h => List.mem_append_left _ (List.mem_append_right _ h)) (by decide +kernel))) (goodIn_sub (fun _ h => List.mem_append_right _ h) (by decide +kernel))
set_option maxRecDepth 20000 in
theorem gL_law_L_plea : GoodIn wsL_law (va_wsS RL 130 yL_plea wsL_plea) := goodIn_app (goodIn_of _ (by decide +kernel)) ggL_law_L_plea
set_option maxRecDepth 20000 in
theorem ggL_law_X4_plea : GoodIn wsL_law wsX4_plea := goodIn_r _ [316, 65, 101, 154, 317, 318, 319, 5, 320, 94, 95, 96, 289, 290, 291, 292, 272, 97, 98, 99, 100, 615, 616, 617, 618, 619, 620, 621, 622, 623, 624, 625, 626, 627, 628, 629, 630, 631, 632, 633, 634, 635, 636, 637, 638, 639, 640, 641] (by decide +kernel) (by decide +kernel)
set_option maxRecDepth 20000 in
theorem gL_law_X4_plea : GoodIn wsL_law (wsV RL 133 RX4 yX4_plea wsX4_plea) := goodIn_app (goodIn_of _ (by decide +kernel)) ggL_law_X4_plea
set_option maxRecDepth 20000 in
theorem ggL_law_L_bar : GoodIn wsL_law wsL_bar := goodIn_ca (goodIn_r _ [323, 113, 324, 325, 326, 2, 327, 198, 23, 140, 119, 120, 121, 122, 123, 328, 329, 330, 25, 331, 41, 332, 265, 333, 604, 605, 606, 607, 608, 609, 610, 611, 612, 613, 614, 646, 647, 648, 649, 650, 651, 652, 653, 654] (by decide +kernel) (by decide +kernel)) (goodIn_sub (fun _ h => List.mem_append_right _ h) (by decide +kernel))
set_option maxRecDepth 20000 in
theorem gL_law_L_bar : GoodIn wsL_law (va_wsS RL 134 yL_bar wsL_bar) := goodIn_app (goodIn_of _ (by decide +kernel)) ggL_law_L_bar
set_option maxRecDepth 20000 in
theorem ggL_law_X4_bar : GoodIn wsL_law wsX4_bar := goodIn_r _ [337, 317, 318, 319, 5, 320, 94, 95, 96, 289, 290, 291, 292, 272, 97, 98, 99, 100, 101, 338, 339, 340, 341, 65, 154, 62, 58, 63, 615, 616, 617, 618, 619, 620, 621, 622, 623, 624, 625, 626, 627, 628, 629, 630, 631, 632, 633, 634, 635, 636, 637, 638, 639, 640, 641] (by decide +kernel) (by decide +kernel)
set_option maxRecDepth 20000 in
theorem gL_law_X4_bar : GoodIn wsL_law (wsV RL 136 RX4 yX4_bar wsX4_bar) := goodIn_app (goodIn_of _ (by decide +kernel)) ggL_law_X4_bar
set_option maxRecDepth 20000 in
theorem ggL_law_L_complain : GoodIn wsL_law wsL_complain := goodIn_ca (goodIn_ca (goodIn_r _ [344, 113, 79, 345, 346, 347, 2, 348, 86, 87, 198, 23, 140, 27, 119, 120, 121, 122, 123, 328, 329, 330, 25, 331, 41, 332, 265, 333, 349, 350, 351, 352, 353, 354, 355, 356, 357, 358, 359, 360, 361, 362, 29, 363, 364, 365, 366, 367, 368, 369, 370, 371, 372, 373, 604, 605, 606, 607, 608, 609, 610, 611, 612, 613, 614, 646, 647, 648, 649, 650, 651, 652, 653, 654, 655, 656, 657, 658, 659, 660, 661, 662] (by decide +kernel) (by decide +kernel)) (goodIn_sub (fun _ h => List.mem_append_left _ (List.mem_append_right _ h)) (by decide +kernel))) (goodIn_sub (fun _ h => List.mem_append_right _ h) (by decide +kernel))
set_option maxRecDepth 20000 in
theorem gL_law_L_complain : GoodIn wsL_law (va_wsS RL 137 yL_complain wsL_complain) := goodIn_app (goodIn_of _ (by decide +kernel)) ggL_law_L_complain
set_option maxRecDepth 20000 in
theorem ggL_law_X4_complain : GoodIn wsL_law wsX4_complain := goodIn_r _ [377, 378, 66, 67, 68, 70, 73, 69, 317, 318, 319, 5, 320, 94, 95, 96, 289, 290, 291, 292, 272, 97, 98, 99, 100, 101, 379, 380, 381, 382, 338, 339, 340, 341, 65, 154, 62, 58, 63, 102, 103, 104, 105, 615, 616, 617, 618, 619, 620, 621, 622, 623, 624, 625, 626, 627, 628, 629, 630, 631, 632, 633, 634, 635, 636, 637, 638, 639, 640, 641] (by decide +kernel) (by decide +kernel)
set_option maxRecDepth 20000 in
theorem gL_law_X4_complain : GoodIn wsL_law (wsV RL 139 RX4 yX4_complain wsX4_complain) := goodIn_app (goodIn_of _ (by decide +kernel)) ggL_law_X4_complain
set_option maxRecDepth 20000 in
theorem ggL_law_L_ask : GoodIn wsL_law wsL_ask := goodIn_ca (goodIn_ca (goodIn_r _ [385, 113, 79, 386, 387, 388, 2, 389, 86, 87, 353, 27, 355, 390, 140, 391, 23, 354, 392, 119, 120, 121, 122, 123, 604, 605, 606, 607, 608, 609, 610, 611, 612, 613, 614, 655, 656, 657, 658, 659, 660, 661, 662, 646, 647, 648, 649, 650, 651, 652, 653, 654] (by decide +kernel) (by decide +kernel)) (goodIn_sub (fun _ h => List.mem_append_left _ (List.mem_append_right _ h)) (by decide +kernel))) (goodIn_sub (fun _ h => List.mem_append_right _ h) (by decide +kernel))
set_option maxRecDepth 20000 in
theorem gL_law_L_ask : GoodIn wsL_law (va_wsS RL 140 yL_ask wsL_ask) := goodIn_app (goodIn_of _ (by decide +kernel)) ggL_law_L_ask
set_option maxRecDepth 20000 in
theorem ggL_law_X4_ask : GoodIn wsL_law wsX4_ask := goodIn_r _ [396, 67, 70, 154, 56, 66, 397, 398, 399, 5, 400, 378, 94, 95, 96, 97, 98, 99, 100, 101, 102, 103, 104, 105, 615, 616, 617, 618, 619, 620, 621, 622, 623, 624, 625, 626, 627, 628, 629, 630, 631, 632, 633, 634, 635, 636, 637, 638, 639, 640, 641] (by decide +kernel) (by decide +kernel)
set_option maxRecDepth 20000 in
theorem gL_law_X4_ask : GoodIn wsL_law (wsV RL 142 RX4 yX4_ask wsX4_ask) := goodIn_app (goodIn_of _ (by decide +kernel)) ggL_law_X4_ask
set_option maxRecDepth 20000 in
theorem ggL_law_L_answer : GoodIn wsL_law wsL_answer := goodIn_ca (goodIn_ca (goodIn_r _ [403, 113, 79, 404, 405, 406, 2, 407, 86, 87, 353, 27, 390, 140, 391, 119, 120, 121, 122, 123, 604, 605, 606, 607, 608, 609, 610, 611, 612, 613, 614, 655, 656, 657, 658, 659, 660, 661, 662] (by decide +kernel) (by decide +kernel)) (goodIn_sub (fun _ h => List.mem_append_left _ (List.mem_append_right _ h)) (by decide +kernel))) (goodIn_sub (fun _ h => List.mem_append_right _ h) (by decide +kernel))
set_option maxRecDepth 20000 in
theorem gL_law_L_answer : GoodIn wsL_law (va_wsS RL 143 yL_answer wsL_answer) := goodIn_app (goodIn_of _ (by decide +kernel)) ggL_law_L_answer
set_option maxRecDepth 20000 in
theorem ggL_law_X4_answer : GoodIn wsL_law wsX4_answer := goodIn_r _ [411, 71, 154, 70, 397, 398, 399, 5, 400, 378, 94, 95, 96, 97, 98, 99, 100, 101, 412, 413, 414, 415, 102, 103, 104, 105, 615, 616, 617, 618, 619, 620, 621, 622, 623, 624, 625, 626, 627, 628, 629, 630, 631, 632, 633, 634, 635, 636, 637, 638, 639, 640, 641] (by decide +kernel) (by decide +kernel)
set_option maxRecDepth 20000 in
theorem gL_law_X4_answer : GoodIn wsL_law (wsV RL 145 RX4 yX4_answer wsX4_answer) := goodIn_app (goodIn_of _ (by decide +kernel)) ggL_law_X4_answer
set_option maxRecDepth 20000 in
theorem ggL_law_L_hear : GoodIn wsL_law wsL_hear := goodIn_ca (goodIn_ca (goodIn_r _ [418, 113, 79, 419, 420, 421, 2, 422, 86, 87, 353, 27, 355, 390, 423, 119, 120, 121, 122, 123, 604, 605, 606, 607, 608, 609, 610, 611, 612, 613, 614, 655, 656, 657, 658, 659, 660, 661, 662] (by decide +kernel) (by decide +kernel)) (goodIn_sub (fun _ h => List.mem_append_left _ (List.mem_append_right _ h)) (by decide +kernel))) (goodIn_sub (fun _ h => List.mem_append_right _ h) (by decide +kernel))
set_option maxRecDepth 20000 in
theorem gL_law_L_hear : GoodIn wsL_law (va_wsS RL 146 yL_hear wsL_hear) := goodIn_app (goodIn_of _ (by decide +kernel)) ggL_law_L_hear
set_option maxRecDepth 20000 in
theorem ggL_law_X4_hear : GoodIn wsL_law wsX4_hear := goodIn_r _ [427, 67, 71, 72, 101, 397, 398, 399, 5, 400, 378, 94, 95, 96, 97, 98, 99, 100, 615, 616, 617, 618, 619, 620, 621, 622, 623, 624, 625, 626, 627, 628, 629, 630, 631, 632, 633, 634, 635, 636, 637, 638, 639, 640, 641] (by decide +kernel) (by decide +kernel)
set_option maxRecDepth 20000 in
theorem gL_law_X4_hear : GoodIn wsL_law (wsV RL 149 RX4 yX4_hear wsX4_hear) := goodIn_app (goodIn_of _ (by decide +kernel)) ggL_law_X4_hear
set_option maxRecDepth 20000 in
theorem ggL_law_L_find : GoodIn wsL_law wsL_find := goodIn_ca (goodIn_ca (goodIn_r _ [430, 113, 79, 431, 432, 433, 2, 434, 86, 87, 353, 27, 355, 423, 354, 435, 119, 120, 121, 122, 123, 436, 437, 438, 439, 440, 441, 442, 443, 23, 444, 21, 445, 446, 141, 142, 143, 19, 144, 145, 34, 35, 36, 447, 448, 449, 450, 451, 452, 453, 454, 198, 455, 456, 457, 458, 392, 459, 460, 461, 462, 604, 605, 606, 607, 608, 609, 610, 611, 612, 613, 614, 655, 656, 657, 658, 659, 660, 661, 662, 646, 647, 648, 649, 650, 651, 652, 653, 654, 642, 643, 644, 645] (by decide +kernel) (by decide +kernel)) (goodIn_sub (fun _ h => List.mem_append_left _ (List.mem_append_right _ h)) (by decide +kernel))) (goodIn_sub (fun _ h => List.mem_append_right _ h) (by decide +kernel))
set_option maxRecDepth 20000 in
theorem gL_law_L_find : GoodIn wsL_law (va_wsS RL 150 yL_find wsL_find) := goodIn_app (goodIn_of _ (by decide +kernel)) ggL_law_L_find
set_option maxRecDepth 20000 in
theorem ggL_law_X4_find : GoodIn wsL_law wsX4_find := goodIn_r _ [466, 67, 72, 73, 66, 397, 398, 399, 5, 400, 378, 94, 95, 96, 97, 98, 99, 100, 101, 102, 103, 104, 105, 467, 468, 469, 470, 471, 472, 473, 474, 59, 55, 57, 58, 475, 476, 477, 478, 272, 479, 480, 481, 482, 483, 484, 485, 486, 56, 615, 616, 617, 618, 619, 620, 621, 622, 623, 624, 625, 626, 627, 628, 629, 630, 631, 632, 633, 634, 635, 636, 637, 638, 639, 640, 641] (by decide +kernel) (by decide +kernel)
set_option maxRecDepth 20000 in
theorem gL_law_X4_find : GoodIn wsL_law (wsV RL 152 RX4 yX4_find wsX4_find) := goodIn_app (goodIn_of _ (by decide +kernel)) ggL_law_X4_find
set_option maxRecDepth 20000 in
theorem ggL_law_L_remedy : GoodIn wsL_law wsL_remedy := goodIn_ca (goodIn_ca (goodIn_ca (goodIn_r _ [489, 113, 78, 79, 490, 491, 492, 2, 493, 86, 87, 353, 27, 355, 435, 198, 354, 23, 119, 120, 121, 122, 123, 162, 163, 164, 84, 85, 455, 456, 457, 458, 445, 392, 436, 437, 438, 439, 440, 441, 442, 443, 444, 21, 446, 141, 142, 143, 19, 144, 145, 34, 35, 36, 447, 448, 449, 450, 451, 452, 453, 454, 459, 460, 461, 462, 494, 495, 496, 25, 497, 267, 42, 604, 605, 606, 607, 608, 609, 610, 611, 612, 613, 614, 655, 656, 657, 658, 659, 660, 661, 662, 646, 647, 648, 649, 650, 651, 652, 653, 654, 642, 643, 644, 645] (by decide +kernel) (by decide +kernel)) (goodIn_sub (fun _ h => List.mem_append_left _ (List.mem_append_right _ h)) (by decide +kernel))) (goodIn_sub (fun _ h => List.mem_append_right _ h) (by decide +kernel))) (goodIn_sub (fun _ h => List.mem_append_left _ (List.mem_append_left _ (List.mem_append_right _ h))) (by decide +kernel))
set_option maxRecDepth 20000 in
theorem gL_law_L_remedy : GoodIn wsL_law (va_wsS RL 153 yL_remedy wsL_remedy) := goodIn_app (goodIn_of _ (by decide +kernel)) ggL_law_L_remedy
set_option maxRecDepth 20000 in
theorem ggL_law_X4_remedy : GoodIn wsL_law wsX4_remedy := goodIn_r _ [501, 67, 73, 66, 272, 64, 60, 397, 398, 399, 5, 400, 378, 94, 95, 96, 97, 98, 99, 100, 101, 102, 103, 104, 105, 483, 484, 485, 486, 57, 56, 467, 468, 469, 470, 471, 472, 473, 474, 59, 55, 58, 475, 476, 477, 478, 479, 480, 481, 482, 615, 616, 617, 618, 619, 620, 621, 622, 623, 624, 625, 626, 627, 628, 629, 630, 631, 632, 633, 634, 635, 636, 637, 638, 639, 640, 641] (by decide +kernel) (by decide +kernel)
set_option maxRecDepth 20000 in
theorem gL_law_X4_remedy : GoodIn wsL_law (wsV RL 155 RX4 yX4_remedy wsX4_remedy) := goodIn_app (goodIn_of _ (by decide +kernel)) ggL_law_X4_remedy
set_option maxRecDepth 20000 in
theorem ggL_law_L_pass : GoodIn wsL_law wsL_pass := goodIn_ca (goodIn_ca (goodIn_r _ [504, 78, 79, 505, 506, 507, 2, 508, 86, 87, 140, 353, 27, 162, 163, 164, 84, 85, 509, 510, 511, 29, 512, 365, 367, 366, 513, 514, 515, 516, 604, 605, 606, 607, 608, 609, 610, 611, 612, 613, 614, 655, 656, 657, 658, 659, 660, 661, 662] (by decide +kernel) (by decide +kernel)) (goodIn_sub (fun _ h => List.mem_append_left _ (List.mem_append_right _ h)) (by decide +kernel))) (goodIn_sub (fun _ h => List.mem_append_left _ (List.mem_append_left _ (List.mem_append_right _ h))) (by decide +kernel))
set_option maxRecDepth 20000 in
theorem gL_law_L_pass : GoodIn wsL_law (va_wsS RL 156 yL_pass wsL_pass) := goodIn_app (goodIn_of _ (by decide +kernel)) ggL_law_L_pass
set_option maxRecDepth 20000 in
theorem ggL_law_X4_pass : GoodIn wsL_law wsX4_pass := goodIn_r _ [520, 154, 378, 67, 68, 94, 95, 5, 96, 97, 98, 99, 100, 101, 102, 103, 104, 105, 412, 413, 414, 415, 70, 71, 615, 616, 617, 618, 619, 620, 621, 622, 623, 624, 625, 626, 627, 628, 629, 630, 631, 632, 633, 634, 635, 636, 637, 638, 639, 640, 641] (by decide +kernel) (by decide +kernel)
set_option maxRecDepth 20000 in
theorem gL_law_X4_pass : GoodIn wsL_law (wsV RL 158 RX4 yX4_pass wsX4_pass) := goodIn_app (goodIn_of _ (by decide +kernel)) ggL_law_X4_pass
set_option maxRecDepth 20000 in
theorem ggL_law_L_about : GoodIn wsL_law wsL_about := goodIn_ca (goodIn_ca (goodIn_r _ [523, 113, 78, 524, 525, 526, 2, 527, 353, 27, 355, 354, 528, 529, 390, 435, 119, 120, 121, 122, 123, 162, 163, 164, 84, 85, 530, 531, 532, 533, 534, 535, 536, 604, 605, 606, 607, 608, 609, 610, 611, 612, 613, 614, 655, 656, 657, 658, 659, 660, 661, 662] (by decide +kernel) (by decide +kernel)) (goodIn_sub (fun _ h => List.mem_append_right _ h) (by decide +kernel))) (goodIn_sub (fun _ h => List.mem_append_left _ (List.mem_append_left _ (List.mem_append_right _ h))) (by decide +kernel))
set_option maxRecDepth 20000 in
theorem gL_law_L_about : GoodIn wsL_law (va_wsS RL 159 yL_about wsL_about) := goodIn_app (goodIn_of _ (by decide +kernel)) ggL_law_L_about
set_option maxRecDepth 20000 in
theorem ggL_law_X4_about : GoodIn wsL_law wsX4_about := goodIn_r _ [540, 67, 66, 68, 69, 73, 397, 398, 399, 5, 400, 378, 94, 95, 96, 97, 98, 99, 100, 101, 541, 542, 543, 412, 413, 414, 415, 70, 71, 102, 103, 104, 105, 615, 616, 617, 618, 619, 620, 621, 622, 623, 624, 625, 626, 627, 628, 629, 630, 631, 632, 633, 634, 635, 636, 637, 638, 639, 640, 641] (by decide +kernel) (by decide +kernel)
set_option maxRecDepth 20000 in
theorem gL_law_X4_about : GoodIn wsL_law (wsV RL 161 RX4 yX4_about wsX4_about) := goodIn_app (goodIn_of _ (by decide +kernel)) ggL_law_X4_about
set_option maxRecDepth 20000 in
theorem ggL_law_L_reminder : GoodIn wsL_law wsL_reminder := goodIn_ca (goodIn_r _ [546, 113, 547, 548, 549, 2, 550, 353, 27, 390, 23, 354, 392, 140, 391, 119, 120, 121, 122, 123, 551, 552, 553, 554, 16, 604, 605, 606, 607, 608, 609, 610, 611, 612, 613, 614, 655, 656, 657, 658, 659, 660, 661, 662, 646, 647, 648, 649, 650, 651, 652, 653, 654] (by decide +kernel) (by decide +kernel)) (goodIn_sub (fun _ h => List.mem_append_right _ h) (by decide +kernel))
set_option maxRecDepth 20000 in
theorem gL_law_L_reminder : GoodIn wsL_law (va_wsS RL 162 yL_reminder wsL_reminder) := goodIn_app (goodIn_of _ (by decide +kernel)) ggL_law_L_reminder
set_option maxRecDepth 20000 in
theorem ggL_law_X4_reminder : GoodIn wsL_law wsX4_reminder := goodIn_r _ [558, 56, 66, 154, 70, 52, 397, 398, 399, 5, 400, 378, 94, 95, 96, 97, 98, 99, 100, 101, 412, 413, 414, 415, 71, 615, 616, 617, 618, 619, 620, 621, 622, 623, 624, 625, 626, 627, 628, 629, 630, 631, 632, 633, 634, 635, 636, 637, 638, 639, 640, 641] (by decide +kernel) (by decide +kernel)
set_option maxRecDepth 20000 in
theorem gL_law_X4_reminder : GoodIn wsL_law (wsV RL 164 RX4 yX4_reminder wsX4_reminder) := goodIn_app (goodIn_of _ (by decide +kernel)) ggL_law_X4_reminder
set_option maxRecDepth 20000 in
theorem ggL_law_L_fault : GoodIn wsL_law wsL_fault := goodIn_ca (goodIn_r _ [561, 113, 562, 563, 564, 2, 565, 198, 119, 120, 121, 122, 123, 436, 437, 438, 439, 440, 441, 442, 443, 23, 444, 21, 445, 446, 141, 142, 143, 19, 144, 145, 34, 35, 36, 447, 448, 449, 450, 451, 452, 453, 454, 455, 456, 457, 458, 392, 459, 460, 461, 462, 604, 605, 606, 607, 608, 609, 610, 611, 612, 613, 614, 646, 647, 648, 649, 650, 651, 652, 653, 654, 642, 643, 644, 645] (by decide +kernel) (by decide +kernel)) (goodIn_sub (fun _ h => List.mem_append_right _ h) (by decide +kernel))
set_option maxRecDepth 20000 in
theorem gL_law_L_fault : GoodIn wsL_law (va_wsS RL 165 yL_fault wsL_fault) := goodIn_app (goodIn_of _ (by decide +kernel)) ggL_law_L_fault
set_option maxRecDepth 20000 in
theorem ggL_law_X4_fault : GoodIn wsL_law wsX4_fault := goodIn_r _ [569, 289, 290, 291, 5, 292, 272, 94, 95, 96, 97, 98, 99, 100, 101, 467, 468, 469, 470, 471, 472, 473, 474, 59, 55, 57, 58, 475, 476, 477, 478, 479, 480, 481, 482, 483, 484, 485, 486, 56, 615, 616, 617, 618, 619, 620, 621, 622, 623, 624, 625, 626, 627, 628, 629, 630, 631, 632, 633, 634, 635, 636, 637, 638, 639, 640, 641] (by decide +kernel) (by decide +kernel)
set_option maxRecDepth 20000 in
theorem gL_law_X4_fault : GoodIn wsL_law (wsV RL 167 RX4 yX4_fault wsX4_fault) := goodIn_app (goodIn_of _ (by decide +kernel)) ggL_law_X4_fault
set_option maxRecDepth 20000 in
theorem ggL_law_L_likes : GoodIn wsL_law wsL_likes := goodIn_ca (goodIn_r _ [572, 113, 573, 574, 575, 2, 576, 198, 119, 120, 121, 122, 123, 451, 452, 453, 454, 455, 456, 457, 458, 23, 445, 392, 604, 605, 606, 607, 608, 609, 610, 611, 612, 613, 614, 646, 647, 648, 649, 650, 651, 652, 653, 654] (by decide +kernel) (by decide +kernel)) (goodIn_sub (fun _ h => List.mem_append_right _ h) (by decide +kernel))
set_option maxRecDepth 20000 in
theorem gL_law_L_likes : GoodIn wsL_law (va_wsS RL 168 yL_likes wsL_likes) := goodIn_app (goodIn_of _ (by decide +kernel)) ggL_law_L_likes
set_option maxRecDepth 20000 in
theorem ggL_law_X4_likes : GoodIn wsL_law wsX4_likes := goodIn_r _ [580, 289, 290, 291, 5, 292, 272, 94, 95, 96, 97, 98, 99, 100, 101, 479, 480, 481, 482, 483, 484, 485, 486, 57, 56, 615, 616, 617, 618, 619, 620, 621, 622, 623, 624, 625, 626, 627, 628, 629, 630, 631, 632, 633, 634, 635, 636, 637, 638, 639, 640, 641] (by decide +kernel) (by decide +kernel)
set_option maxRecDepth 20000 in
theorem gL_law_X4_likes : GoodIn wsL_law (wsV RL 170 RX4 yX4_likes wsX4_likes) := goodIn_app (goodIn_of _ (by decide +kernel)) ggL_law_X4_likes
set_option maxRecDepth 20000 in
theorem ggL_law_L_remedied : GoodIn wsL_law wsL_remedied := goodIn_ca (goodIn_r _ [583, 113, 584, 585, 586, 2, 587, 198, 23, 588, 119, 120, 121, 122, 123, 604, 605, 606, 607, 608, 609, 610, 611, 612, 613, 614, 646, 647, 648, 649, 650, 651, 652, 653, 654] (by decide +kernel) (by decide +kernel)) (goodIn_sub (fun _ h => List.mem_append_right _ h) (by decide +kernel))
set_option maxRecDepth 20000 in
theorem gL_law_L_remedied : GoodIn wsL_law (va_wsS RL 171 yL_remedied wsL_remedied) := goodIn_app (goodIn_of _ (by decide +kernel)) ggL_law_L_remedied
set_option maxRecDepth 20000 in
theorem ggL_law_X4_remedied : GoodIn wsL_law wsX4_remedied := goodIn_r _ [592, 64, 289, 290, 291, 5, 292, 272, 94, 95, 96, 97, 98, 99, 100, 101, 615, 616, 617, 618, 619, 620, 621, 622, 623, 624, 625, 626, 627, 628, 629, 630, 631, 632, 633, 634, 635, 636, 637, 638, 639, 640, 641] (by decide +kernel) (by decide +kernel)
set_option maxRecDepth 20000 in
theorem gL_law_X4_remedied : GoodIn wsL_law (wsV RL 173 RX4 yX4_remedied wsX4_remedied) := goodIn_app (goodIn_of _ (by decide +kernel)) ggL_law_X4_remedied
set_option maxRecDepth 20000 in
theorem ggL_law_L_gains : GoodIn wsL_law wsL_gains := goodIn_ca (goodIn_ca (goodIn_r _ [595, 113, 78, 596, 597, 598, 2, 599, 198, 23, 445, 444, 119, 120, 121, 122, 123, 162, 163, 164, 84, 85, 440, 441, 442, 443, 21, 446, 141, 142, 143, 19, 144, 145, 34, 35, 36, 604, 605, 606, 607, 608, 609, 610, 611, 612, 613, 614, 646, 647, 648, 649, 650, 651, 652, 653, 654, 642, 643, 644, 645] (by decide +kernel) (by decide +kernel)) (goodIn_sub (fun _ h => List.mem_append_right _ h) (by decide +kernel))) (goodIn_sub (fun _ h => List.mem_append_left _ (List.mem_append_left _ (List.mem_append_right _ h))) (by decide +kernel))
set_option maxRecDepth 20000 in
theorem gL_law_L_gains : GoodIn wsL_law (va_wsS RL 174 yL_gains wsL_gains) := goodIn_app (goodIn_of _ (by decide +kernel)) ggL_law_L_gains
set_option maxRecDepth 20000 in
theorem ggL_law_X4_gains : GoodIn wsL_law wsX4_gains := goodIn_r _ [603, 272, 59, 57, 188, 189, 5, 190, 94, 95, 96, 97, 98, 99, 100, 101, 102, 103, 104, 105, 471, 472, 473, 474, 55, 58, 615, 616, 617, 618, 619, 620, 621, 622, 623, 624, 625, 626, 627, 628, 629, 630, 631, 632, 633, 634, 635, 636, 637, 638, 639, 640, 641] (by decide +kernel) (by decide +kernel)
set_option maxRecDepth 20000 in
theorem gL_law_X4_gains : GoodIn wsL_law (wsV RL 176 RX4 yX4_gains wsX4_gains) := goodIn_app (goodIn_of _ (by decide +kernel)) ggL_law_X4_gains
end
section
/-! whole numbers, places, rows -/
def zz_v (z : Int) : Value := .int (Int32.ofInt z)
def zz_l (z : Int) : Value := .long (Int64.ofInt z)
def zz_R (z : Int) : Prop := -2147483648 ≤ z ∧ z < 2147483648
abbrev zz_S : Type := Nat → Nat → Int
def zz_u (S : zz_S) (k f : Nat) (z : Int) : zz_S := va_up S k (va_up (S k) f z)
def zz_Rg (S : zz_S) : Prop := ∀ i j : Nat, zz_R (S i j)
theorem zz_u_same (S : zz_S) (k f : Nat) (z : Int) : zz_u S k f z k f = z := by simp [zz_u, va_up]
theorem zz_u_ne (S : zz_S) {k f i j : Nat} (z : Int) (h : ¬ (i = k ∧ j = f)) : zz_u S k f z i j = S i j := by
  unfold zz_u va_up
  by_cases hi : i = k
  · subst hi
    have hj : ¬ j = f := fun q => h ⟨rfl, q⟩
    simp [hj]
  · simp [hi]
theorem zz_u_at (S : zz_S) (k f : Nat) (z : Int) (i j : Nat) : zz_u S k f z i j = if i = k ∧ j = f then z else S i j := by
  by_cases h : i = k ∧ j = f
  · obtain ⟨rfl, rfl⟩ := h
    rw [if_pos ⟨rfl, rfl⟩, zz_u_same]
  · rw [if_neg h, zz_u_ne S z h]
theorem zz_Rg_u {S : zz_S} (h : zz_Rg S) {k f : Nat} {z : Int} (hz : zz_R z) : zz_Rg (zz_u S k f z) := by
  intro i j
  rw [zz_u_at]
  by_cases q : i = k ∧ j = f
  · rw [if_pos q]; exact hz
  · rw [if_neg q]; exact h i j
theorem zz_ti {z : Int} (h : zz_R z) : (Int32.ofInt z).toInt = z := by
  obtain ⟨h1, h2⟩ := h
  rw [Int32.toInt_ofInt, show Int32.size = 2 ^ 32 from rfl, Int.bmod_eq_of_le (by omega) (by omega)]
theorem zz_le {x y : Int} (hx : zz_R x) (hy : zz_R y) : Int32.ofInt x ≤ Int32.ofInt y ↔ x ≤ y := by
  rw [Int32.le_iff_toInt_le, zz_ti hx, zz_ti hy]
theorem zz_lt {x y : Int} (hx : zz_R x) (hy : zz_R y) : Int32.ofInt x < Int32.ofInt y ↔ x < y := by
  rw [Int32.lt_iff_toInt_lt, zz_ti hx, zz_ti hy]
theorem zz_eq {x y : Int} (hx : zz_R x) (hy : zz_R y) : Int32.ofInt x = Int32.ofInt y ↔ x = y := by
  rw [← Int32.toInt_inj, zz_ti hx, zz_ti hy]
theorem zz_r0 : zz_R 0 := ⟨by decide, by decide⟩
theorem zz_o0 : (0 : Int32) = Int32.ofInt 0 := rfl
theorem zz_eq0 {x : Int} (hx : zz_R x) : Int32.ofInt x = 0 ↔ x = 0 := by rw [zz_o0, zz_eq hx zz_r0]
theorem zz_lt0 {x : Int} (hx : zz_R x) : Int32.ofInt x < 0 ↔ x < 0 := by rw [zz_o0, zz_lt hx zz_r0]
theorem zz_gt0 {x : Int} (hx : zz_R x) : 0 < Int32.ofInt x ↔ 0 < x := by rw [zz_o0, zz_lt zz_r0 hx]
theorem zz_le0 {x : Int} (hx : zz_R x) : Int32.ofInt x ≤ 0 ↔ x ≤ 0 := by rw [zz_o0, zz_le hx zz_r0]
theorem zz_ge0 {x : Int} (hx : zz_R x) : 0 ≤ Int32.ofInt x ↔ 0 ≤ x := by rw [zz_o0, zz_le zz_r0 hx]
theorem zz_asI (x : Int32) : Int32.ofInt x.toInt = x := Int32.ofInt_toInt x
theorem zz_rng (x : Int32) : zz_R x.toInt := by
  have h1 := Int32.le_toInt x
  have h2 := Int32.toInt_lt x
  constructor <;> omega
theorem zz_cl {i : Int} {j : Nat} (h : i = (j : Int)) (hj : j < 2147483648) : (Int32.ofInt i).toNatClampNeg = j := by
  rw [Int32.toNatClampNeg, zz_ti (by constructor <;> omega), h, Int.toNat_natCast]
theorem zz_in {i : Int} {j n : Nat} (h : i = (j : Int)) (hj : j < n) (hn : n < 2147483648) : vp_in (Int32.ofInt i) n := by
  rw [vp_in_iff, zz_ti (by constructor <;> omega), h]
  constructor <;> omega
/-! kinds of places: (0, class, fields, which are places), (1, kind of array, length, -), (2, kind of array, length, its places), (3, .. of longs) -/
abbrev zz_K : Type := Nat × Nat × Nat × (Nat → Option Nat)
abbrev zz_G : Type := va_G × (Nat → ClassId)
def zz_f (a : Nat → Nat) (row : Nat → Int) (rf : Nat → Option Nat) (f : Nat) : Value := match rf f with
  | some j => .ref (a j)
  | none => zz_v (row f)
def zz_c (G : zz_G) (a : Nat → Nat) (K : zz_K) (row : Nat → Int) : va_E :=
  if K.1 = 0 then .inr (K.2.1, (List.range K.2.2.1).map (zz_f a row K.2.2.2))
  else if K.1 = 1 then .inl (G.2 K.2.1, K.2.2.1, .inl (fun i => Int32.ofInt (row i)))
  else if K.1 = 2 then .inl (G.2 K.2.1, K.2.2.1, .inr (.inr (.inr (.inr (fun i => (K.2.2.2 i).map a)))))
  else .inl (G.2 K.2.1, K.2.2.1, .inr (.inl (fun i => Int64.ofInt (row i))))
def zz_no : Nat → Option Nat := fun _ => none
/-- the places of this claim: the class's objects 0 to 76, the reference's 77 to 98, the law's array 99 -/
def zz_k : Nat → zz_K := fun k =>
  if k < 13 then match k with
    | 0 => (0, 3, 11, fun f => match f with | 0 => some 1 | 2 => some 2 | 4 => some 3 | 5 => some 7 | 6 => some 11 | 8 => some 12 | _ => none)
    | 1 => (1, 1, 7, zz_no)
    | 2 => (1, 0, 10, zz_no)
    | 3 => (0, 1, 4, fun f => match f with | 0 => some 4 | 1 => some 5 | 2 => some 6 | _ => none)
    | 4 => (1, 0, 512, zz_no)
    | 5 => (1, 0, 512, zz_no)
    | 6 => (1, 0, 512, zz_no)
    | 7 => (0, 1, 4, fun f => match f with | 0 => some 8 | 1 => some 9 | 2 => some 10 | _ => none)
    | 8 => (1, 0, 512, zz_no)
    | 9 => (1, 0, 512, zz_no)
    | 10 => (1, 0, 512, zz_no)
    | 11 => (2, 3, 24, fun i => some (13 + i))
    | _ => (2, 4, 16, fun i => some (61 + i))
  else if k < 37 then (0, 0, 9, fun f => if f = 8 then some (24 + k) else none)
  else if k < 61 then (1, 0, 10, zz_no)
  else if k < 77 then (0, 2, 8, zz_no)
  else match k with
    | 77 => (0, 4, 27, fun f => match f with | 1 => some 78 | 4 => some 79 | 5 => some 80 | 6 => some 81 | 8 => some 82 | 9 => some 83 | 10 => some 84 | 11 => some 85 | 12 => some 86 | 13 => some 87 | 14 => some 88 | 15 => some 89 | 16 => some 90 | 18 => some 91 | 19 => some 92 | 20 => some 93 | 21 => some 94 | 22 => some 95 | 23 => some 96 | 24 => some 97 | 25 => some 98 | _ => none)
    | 78 => (1, 0, 7, zz_no)
    | 79 => (1, 0, 10, zz_no)
    | 80 => (1, 0, 50010, zz_no)
    | 81 => (1, 0, 20004, zz_no)
    | 82 => (1, 0, 24, zz_no)
    | 83 => (1, 0, 24, zz_no)
    | 84 => (1, 0, 24, zz_no)
    | 85 => (1, 0, 24, zz_no)
    | 86 => (1, 0, 24, zz_no)
    | 87 => (1, 2, 24, zz_no)
    | 88 => (1, 2, 24, zz_no)
    | 89 => (1, 0, 24, zz_no)
    | 90 => (1, 0, 240, zz_no)
    | 91 => (1, 0, 16, zz_no)
    | 92 => (1, 0, 16, zz_no)
    | 93 => (1, 0, 16, zz_no)
    | 94 => (1, 0, 16, zz_no)
    | 95 => (1, 0, 16, zz_no)
    | 96 => (1, 2, 16, zz_no)
    | 97 => (1, 2, 16, zz_no)
    | 98 => (1, 0, 16, zz_no)
    | _ => (3, 5, 1, zz_no)
def zz_W (G : zz_G) (a : Nat → Nat) (S : zz_S) : va_W := (List.range 100).map fun k => (a k, zz_c G a (zz_k k) (S k))
abbrev zz_T (G : zz_G) : List (ClassId × FieldType) := [(G.2 0, .int), (G.2 1, .char), (G.2 2, .boolean), (G.2 3, .object RX0), (G.2 4, .object RX2), (G.2 5, .long)]
def zz_A (N0 : Nat) : Nat → Prop := fun q => N0 ≤ q
theorem zz_act {i : Nat} (h : i < 24) : zz_k (13 + i) = (0, 0, 9, fun f => if f = 8 then some (37 + i) else none) := by
  have h1 : ¬ 13 + i < 13 := by omega
  have h2 : 13 + i < 37 := by omega
  simp only [zz_k, if_neg h1, if_pos h2]
  rw [show 24 + (13 + i) = 37 + i by omega]
theorem zz_plea {i : Nat} (h : i < 24) : zz_k (37 + i) = (1, 0, 10, zz_no) := by
  have h1 : ¬ 37 + i < 13 := by omega
  have h2 : ¬ 37 + i < 37 := by omega
  have h3 : 37 + i < 61 := by omega
  simp only [zz_k, if_neg h1, if_neg h2, if_pos h3]
theorem zz_cmp {i : Nat} (h : i < 16) : zz_k (61 + i) = (0, 2, 8, zz_no) := by
  have h1 : ¬ 61 + i < 13 := by omega
  have h2 : ¬ 61 + i < 37 := by omega
  have h3 : ¬ 61 + i < 61 := by omega
  have h4 : 61 + i < 77 := by omega
  simp only [zz_k, if_neg h1, if_neg h2, if_neg h3, if_pos h4]
theorem zz_W_get {G : zz_G} {a : Nat → Nat} {S : zz_S} {k : Nat} (h : k < 100) : (zz_W G a S)[k]? = some (a k, zz_c G a (zz_k k) (S k)) := by
  unfold zz_W
  rw [List.getElem?_map, List.getElem?_range h]
  rfl
theorem zz_W_len {G : zz_G} {a : Nat → Nat} {S : zz_S} : (zz_W G a S).length = 100 := by
  unfold zz_W
  rw [List.length_map, List.length_range]
theorem zz_W_set {G : zz_G} {a : Nat → Nat} {S S' : zz_S} {k : Nat} {E : va_E} (hk : k < 100) (h1 : zz_c G a (zz_k k) (S' k) = E) (h2 : ∀ j : Nat, j ≠ k → S' j = S j) : (zz_W G a S).set k (a k, E) = zz_W G a S' := by
  apply List.ext_getElem?
  intro j
  by_cases hj : j = k
  · subst hj
    rw [List.getElem?_set_self (by rw [zz_W_len]; exact hk), zz_W_get hk, h1]
  · rw [List.getElem?_set_ne (fun q => hj q.symm)]
    by_cases hn : j < 100
    · rw [zz_W_get hn, zz_W_get hn, h2 j hj]
    · rw [List.getElem?_eq_none (by rw [zz_W_len]; omega), List.getElem?_eq_none (by rw [zz_W_len]; omega)]
theorem zz_u_row (S : zz_S) (k f : Nat) (z : Int) : zz_u S k f z k = va_up (S k) f z := by
  unfold zz_u
  exact va_up_self _ _ _
theorem zz_u_off (S : zz_S) {k j f : Nat} (z : Int) (h : j ≠ k) : zz_u S k f z j = S j := by
  unfold zz_u
  exact va_up_ne _ _ h
theorem zz_cO {G : zz_G} {a : Nat → Nat} {row : Nat → Int} {ci n : Nat} {rf : Nat → Option Nat} : zz_c G a (0, ci, n, rf) row = .inr (ci, (List.range n).map (zz_f a row rf)) := rfl
theorem zz_cA {G : zz_G} {a : Nat → Nat} {row : Nat → Int} {t n : Nat} {rf : Nat → Option Nat} : zz_c G a (1, t, n, rf) row = .inl (G.2 t, n, .inl (fun i => Int32.ofInt (row i))) := rfl
theorem zz_cR {G : zz_G} {a : Nat → Nat} {row : Nat → Int} {t n : Nat} {rf : Nat → Option Nat} : zz_c G a (2, t, n, rf) row = .inl (G.2 t, n, .inr (.inr (.inr (.inr (fun i => (rf i).map a))))) := rfl
theorem zz_cL {G : zz_G} {a : Nat → Nat} {row : Nat → Int} {t n : Nat} {rf : Nat → Option Nat} : zz_c G a (3, t, n, rf) row = .inl (G.2 t, n, .inr (.inl (fun i => Int64.ofInt (row i)))) := rfl
theorem zz_fat {a : Nat → Nat} {row : Nat → Int} {rf : Nat → Option Nat} {f n : Nat} (h : f < n) : ((List.range n).map (zz_f a row rf))[f]? = some (zz_f a row rf f) := by
  rw [List.getElem?_map, List.getElem?_range h]
  rfl
theorem zz_fset {a : Nat → Nat} {row : Nat → Int} {rf : Nat → Option Nat} {f n : Nat} {z : Int} (hf : rf f = none) (h : f < n) : ((List.range n).map (zz_f a row rf)).set f (zz_v z) = (List.range n).map (zz_f a (va_up row f z) rf) := by
  apply List.ext_getElem?
  intro j
  by_cases hj : j = f
  · subst hj
    rw [List.getElem?_set_self (by rw [List.length_map, List.length_range]; exact h), zz_fat h]
    simp only [zz_f, hf, va_up_self]
  · rw [List.getElem?_set_ne (fun q => hj q.symm)]
    by_cases hn : j < n
    · rw [zz_fat hn, zz_fat hn]
      simp only [zz_f, va_up_ne _ _ hj]
    · rw [List.getElem?_eq_none (by rw [List.length_map, List.length_range]; omega), List.getElem?_eq_none (by rw [List.length_map, List.length_range]; omega)]
theorem zz_uA {row : Nat → Int} {j : Nat} {z : Int} : upd (fun i => Int32.ofInt (row i)) j (Int32.ofInt z) = fun i => Int32.ofInt (va_up row j z i) := by
  funext i
  simp only [upd, va_up]
  by_cases h : i = j
  · rw [if_pos h, if_pos h]
  · rw [if_neg h, if_neg h]
theorem zz_uL {row : Nat → Int} {j : Nat} {z : Int} : vp_updL (fun i => Int64.ofInt (row i)) j (Int64.ofInt z) = fun i => Int64.ofInt (va_up row j z i) := by
  funext i
  simp only [vp_updL, va_up]
  by_cases h : i = j
  · rw [if_pos h, if_pos h]
  · rw [if_neg h, if_neg h]

/-- the judgement: at pc, with the listed locals and the stack, in the world S; k of the rooms for one thrown object are used -/
def Gd_ (p : Program) (l : Launch) (e : Env) (R : Room) (s : State) (m : MethodId) (args : Array Value) (below : List Frame) (meth : Method) (c : Code) (Q : State → Prop) (N0 : Nat) (G : zz_G) (a : Nat → Nat) (nL k : Nat) (S : zz_S) (pc : Nat) (lv : List (Nat × Value)) (st : List Value) : Prop :=
  zz_Rg S → ∀ (H : Heap) (locs : List Loc) (ls : Array Slot), va_P G.1 vwCl (zz_W G a S) H → va_D (zz_A N0) (zz_W G a S) → va_S (zz_A N0) s.heap H locs → lv_has ls nL lv → W p l e R s m args below meth c H locs k (6 * k) Q (F0 m pc ls st)
/-- an exception of class E is thrown at pc -/
def Gx_ (p : Program) (l : Launch) (e : Env) (R : Room) (s : State) (m : MethodId) (args : Array Value) (below : List Frame) (meth : Method) (c : Code) (Q : State → Prop) (N0 : Nat) (G : zz_G) (a : Nat → Nat) (nL k : Nat) (S : zz_S) (pc : Nat) (lv : List (Nat × Value)) (st : List Value) (E : String) : Prop :=
  zz_Rg S → ∀ (H : Heap) (locs : List Loc) (ls : Array Slot) (q9 : Addr) (ce : Cell), va_P G.1 vwCl (zz_W G a S) H → va_D (zz_A N0) (zz_W G a S) → va_S (zz_A N0) s.heap H locs → lv_has ls nL lv → H[q9]? = some ce → ce.vm = .none → s.vm.findClass E = some ce.cls → vx_W p l e R s m args below meth c H locs k (6 * k) Q (F0 m pc ls st) q9
abbrev zz_C (p : Program) (c : Code) (cc : ByteArray) (nL : Nat) (s : State) (m : MethodId) (own : String) : Prop := p.tables.exec = Jvm.exec ∧ c.code = cc ∧ c.maxLocals = nL ∧ s.vm.findClass own = some m.cls

section ZG
variable {p : Program} {l : Launch} {e : Env} {R : Room} {s : State} {m : MethodId} {args : Array Value} {below : List Frame} {meth : Method} {c : Code} {Q : State → Prop} {N0 : Nat} {G : zz_G} {a : Nat → Nat} {nL k : Nat} {S : zz_S} {pc : Nat} {lv : List (Nat × Value)} {st : List Value} {cc : ByteArray} {own : String}

theorem gd_sub {lv' : List (Nat × Value)} (ks : List Nat) (h : lv_pick lv ks = lv') (kk : Gd_ p l e R s m args below meth c Q N0 G a nL (k) (S) (pc) (lv') (st)) : Gd_ p l e R s m args below meth c Q N0 G a nL (k) (S) (pc) (lv) (st) := fun hR H locs ls hP hD hS hl => kk hR H locs ls hP hD hS (lv_sub hl ks h)
theorem gd_top {x y : Int} (h : x = y) (kk : Gd_ p l e R s m args below meth c Q N0 G a nL (k) (S) (pc) (lv) (zz_v y :: st)) : Gd_ p l e R s m args below meth c Q N0 G a nL (k) (S) (pc) (lv) (zz_v x :: st) := h ▸ kk
theorem gd_wide {k' : Nat} (h : k ≤ k') (kk : Gd_ p l e R s m args below meth c Q N0 G a nL (k') (S) (pc) (lv) (st)) : Gd_ p l e R s m args below meth c Q N0 G a nL (k) (S) (pc) (lv) (st) := fun hR H locs ls hP hD hS hl => W.widen h (by omega) (kk hR H locs ls hP hD hS hl)
theorem gd_eq {S' : zz_S} (h : S' = S) (kk : Gd_ p l e R s m args below meth c Q N0 G a nL (k) (S') (pc) (lv) (st)) : Gd_ p l e R s m args below meth c Q N0 G a nL (k) (S) (pc) (lv) (st) := h ▸ kk
theorem gd_rg (kk : zz_Rg S → Gd_ p l e R s m args below meth c Q N0 G a nL (k) (S) (pc) (lv) (st)) : Gd_ p l e R s m args below meth c Q N0 G a nL (k) (S) (pc) (lv) (st) := fun hR => kk hR hR

theorem gd_iload_n (hC : zz_C p c cc nL s m own) {q : Fin 4} {i j : Nat} {z : Int} (hdg : decode cc pc = .ok (.iload_n q, 1)) (hi : (q : Nat) = i) (hj : lv[j]? = some (i, zz_v z)) (kk : Gd_ p l e R s m args below meth c Q N0 G a nL (k) (S) (pc + 1) (lv) (zz_v z :: st)) : Gd_ p l e R s m args below meth c Q N0 G a nL (k) (S) (pc) (lv) (st) := fun hR H locs ls hP hD hS hl => lv_iload_n hC.1 hC.2.1 hdg hi (lv_at hl j hj) (kk hR H locs ls hP hD hS hl)
theorem gd_iload (hC : zz_C p c cc nL s m own) {i j : Nat} {z : Int} (hdg : decode cc pc = .ok (.iload i, 2)) (hj : lv[j]? = some (i, zz_v z)) (kk : Gd_ p l e R s m args below meth c Q N0 G a nL (k) (S) (pc + 2) (lv) (zz_v z :: st)) : Gd_ p l e R s m args below meth c Q N0 G a nL (k) (S) (pc) (lv) (st) := fun hR H locs ls hP hD hS hl => lv_iload hC.1 hC.2.1 hdg (lv_at hl j hj) (kk hR H locs ls hP hD hS hl)
theorem gd_aload_n (hC : zz_C p c cc nL s m own) {q : Fin 4} {i j : Nat} {x : Nat} (hdg : decode cc pc = .ok (.aload_n q, 1)) (hi : (q : Nat) = i) (hj : lv[j]? = some (i, .ref x)) (kk : Gd_ p l e R s m args below meth c Q N0 G a nL (k) (S) (pc + 1) (lv) (.ref x :: st)) : Gd_ p l e R s m args below meth c Q N0 G a nL (k) (S) (pc) (lv) (st) := fun hR H locs ls hP hD hS hl => lv_aload_n hC.1 hC.2.1 hdg hi (lv_at hl j hj) (kk hR H locs ls hP hD hS hl)
theorem gd_aload (hC : zz_C p c cc nL s m own) {i j : Nat} {x : Nat} (hdg : decode cc pc = .ok (.aload i, 2)) (hj : lv[j]? = some (i, .ref x)) (kk : Gd_ p l e R s m args below meth c Q N0 G a nL (k) (S) (pc + 2) (lv) (.ref x :: st)) : Gd_ p l e R s m args below meth c Q N0 G a nL (k) (S) (pc) (lv) (st) := fun hR H locs ls hP hD hS hl => lv_aload hC.1 hC.2.1 hdg (lv_at hl j hj) (kk hR H locs ls hP hD hS hl)
theorem gd_istore_n (hC : zz_C p c cc nL s m own) {q : Fin 4} {i : Nat} {z : Int} {lv' : List (Nat × Value)} (hdg : decode cc pc = .ok (.istore_n q, 1)) (hi : (q : Nat) = i) (hn : i < nL) (hl' : (i, zz_v z) :: lv.filter (fun q => !(q.1 == i) && !(q.1 + 1 == i && q.2.category == 2)) = lv') (kk : Gd_ p l e R s m args below meth c Q N0 G a nL (k) (S) (pc + 1) (lv') (st)) : Gd_ p l e R s m args below meth c Q N0 G a nL (k) (S) (pc) (lv) (zz_v z :: st) := fun hR H locs ls hP hD hS hl => lv_istore_n hC.1 hC.2.1 hdg hi hl hn hl' (fun ls' hl2 => kk hR H locs ls' hP hD hS hl2)
theorem gd_istore (hC : zz_C p c cc nL s m own) {i : Nat} {z : Int} {lv' : List (Nat × Value)} (hdg : decode cc pc = .ok (.istore i, 2)) (hn : i < nL) (hl' : (i, zz_v z) :: lv.filter (fun q => !(q.1 == i) && !(q.1 + 1 == i && q.2.category == 2)) = lv') (kk : Gd_ p l e R s m args below meth c Q N0 G a nL (k) (S) (pc + 2) (lv') (st)) : Gd_ p l e R s m args below meth c Q N0 G a nL (k) (S) (pc) (lv) (zz_v z :: st) := fun hR H locs ls hP hD hS hl => lv_istore hC.1 hC.2.1 hdg hl hn hl' (fun ls' hl2 => kk hR H locs ls' hP hD hS hl2)
theorem gd_astore_n (hC : zz_C p c cc nL s m own) {q : Fin 4} {i : Nat} {x : Nat} {lv' : List (Nat × Value)} (hdg : decode cc pc = .ok (.astore_n q, 1)) (hi : (q : Nat) = i) (hn : i < nL) (hl' : (i, .ref x) :: lv.filter (fun q => !(q.1 == i) && !(q.1 + 1 == i && q.2.category == 2)) = lv') (kk : Gd_ p l e R s m args below meth c Q N0 G a nL (k) (S) (pc + 1) (lv') (st)) : Gd_ p l e R s m args below meth c Q N0 G a nL (k) (S) (pc) (lv) (.ref x :: st) := fun hR H locs ls hP hD hS hl => lv_astore_n hC.1 hC.2.1 hdg hi hl hn hl' (fun ls' hl2 => kk hR H locs ls' hP hD hS hl2)
theorem gd_astore (hC : zz_C p c cc nL s m own) {i : Nat} {x : Nat} {lv' : List (Nat × Value)} (hdg : decode cc pc = .ok (.astore i, 2)) (hn : i < nL) (hl' : (i, .ref x) :: lv.filter (fun q => !(q.1 == i) && !(q.1 + 1 == i && q.2.category == 2)) = lv') (kk : Gd_ p l e R s m args below meth c Q N0 G a nL (k) (S) (pc + 2) (lv') (st)) : Gd_ p l e R s m args below meth c Q N0 G a nL (k) (S) (pc) (lv) (.ref x :: st) := fun hR H locs ls hP hD hS hl => lv_astore hC.1 hC.2.1 hdg hl hn hl' (fun ls' hl2 => kk hR H locs ls' hP hD hS hl2)
theorem gd_iinc (hC : zz_C p c cc nL s m own) {i j : Nat} {n x y : Int} {lv' : List (Nat × Value)} (hdg : decode cc pc = .ok (.iinc i n, 3)) (hj : lv[j]? = some (i, zz_v x)) (hy : x + n = y) (hn : i < nL) (hl' : (i, zz_v y) :: lv.filter (fun q => !(q.1 == i) && !(q.1 + 1 == i && q.2.category == 2)) = lv') (kk : Gd_ p l e R s m args below meth c Q N0 G a nL (k) (S) (pc + 3) (lv') (st)) : Gd_ p l e R s m args below meth c Q N0 G a nL (k) (S) (pc) (lv) (st) := fun hR H locs ls hP hD hS hl => lv_iinc (v := Int32.ofInt y) hC.1 hC.2.1 hdg hl hj (by rw [← hy, Int32.ofInt_add]) hn hl' (fun ls' hl2 => kk hR H locs ls' hP hD hS hl2)
theorem gd_iconst (hC : zz_C p c cc nL s m own) {n : Int} (hdg : decode cc pc = .ok (.iconst n, 1)) (kk : Gd_ p l e R s m args below meth c Q N0 G a nL (k) (S) (pc + 1) (lv) (zz_v n :: st)) : Gd_ p l e R s m args below meth c Q N0 G a nL (k) (S) (pc) (lv) (st) := fun hR H locs ls hP hD hS hl => lv_iconst hC.1 hC.2.1 hdg rfl (kk hR H locs ls hP hD hS hl)
theorem gd_bipush (hC : zz_C p c cc nL s m own) {n : Int} (hdg : decode cc pc = .ok (.bipush n, 2)) (hv : (Int8.ofInt n).toInt32 = Int32.ofInt n) (kk : Gd_ p l e R s m args below meth c Q N0 G a nL (k) (S) (pc + 2) (lv) (zz_v n :: st)) : Gd_ p l e R s m args below meth c Q N0 G a nL (k) (S) (pc) (lv) (st) := fun hR H locs ls hP hD hS hl => lv_bipush hC.1 hC.2.1 hdg hv (kk hR H locs ls hP hD hS hl)
theorem gd_sipush (hC : zz_C p c cc nL s m own) {n : Int} (hdg : decode cc pc = .ok (.sipush n, 3)) (hv : (Int16.ofInt n).toInt32 = Int32.ofInt n) (kk : Gd_ p l e R s m args below meth c Q N0 G a nL (k) (S) (pc + 3) (lv) (zz_v n :: st)) : Gd_ p l e R s m args below meth c Q N0 G a nL (k) (S) (pc) (lv) (st) := fun hR H locs ls hP hD hS hl => lv_sipush hC.1 hC.2.1 hdg hv (kk hR H locs ls hP hD hS hl)
theorem gd_ldc (hC : zz_C p c cc nL s m own) {n : Int} {index : Nat} (hw : (Cond.constant own index (Int32.ofInt n)).before args s = true) (hdg : decode cc pc = .ok (.ldc index, 2)) (kk : Gd_ p l e R s m args below meth c Q N0 G a nL (k) (S) (pc + 2) (lv) (zz_v n :: st)) : Gd_ p l e R s m args below meth c Q N0 G a nL (k) (S) (pc) (lv) (st) := fun hR H locs ls hP hD hS hl => lv_ldc hC.1 hC.2.1 hC.2.2.2 hw hdg (kk hR H locs ls hP hD hS hl)
theorem gd_ldcw (hC : zz_C p c cc nL s m own) {n : Int} {index : Nat} (hw : (Cond.constant own index (Int32.ofInt n)).before args s = true) (hdg : decode cc pc = .ok (.ldc_w index, 3)) (kk : Gd_ p l e R s m args below meth c Q N0 G a nL (k) (S) (pc + 3) (lv) (zz_v n :: st)) : Gd_ p l e R s m args below meth c Q N0 G a nL (k) (S) (pc) (lv) (st) := fun hR H locs ls hP hD hS hl => lv_ldcw hC.1 hC.2.1 hC.2.2.2 hw hdg (kk hR H locs ls hP hD hS hl)
theorem gd_lconst (hC : zz_C p c cc nL s m own) {n : Fin 2} {z : Int} (hdg : decode cc pc = .ok (.lconst n, 1)) (hv : Int64.ofNat (n : Nat) = Int64.ofInt z) (kk : Gd_ p l e R s m args below meth c Q N0 G a nL (k) (S) (pc + 1) (lv) (zz_l z :: st)) : Gd_ p l e R s m args below meth c Q N0 G a nL (k) (S) (pc) (lv) (st) := fun hR H locs ls hP hD hS hl => lv_lconst hC.1 hC.2.1 hdg hv (kk hR H locs ls hP hD hS hl)
theorem gd_dup (hC : zz_C p c cc nL s m own) {v : Value} (hdg : decode cc pc = .ok (.dup, 1)) (hv : v.category = 1) (kk : Gd_ p l e R s m args below meth c Q N0 G a nL (k) (S) (pc + 1) (lv) (v :: v :: st)) : Gd_ p l e R s m args below meth c Q N0 G a nL (k) (S) (pc) (lv) (v :: st) := fun hR H locs ls hP hD hS hl => lv_dup hC.1 hC.2.1 hdg hv (kk hR H locs ls hP hD hS hl)
theorem gd_dup2 (hC : zz_C p c cc nL s m own) {v u : Value} (hdg : decode cc pc = .ok (.dup2, 1)) (hv : v.category = 1) (hu : u.category = 1) (kk : Gd_ p l e R s m args below meth c Q N0 G a nL (k) (S) (pc + 1) (lv) (v :: u :: v :: u :: st)) : Gd_ p l e R s m args below meth c Q N0 G a nL (k) (S) (pc) (lv) (v :: u :: st) := fun hR H locs ls hP hD hS hl => lv_dup2_11 hC.1 hC.2.1 hdg hv hu (kk hR H locs ls hP hD hS hl)
theorem gd_dup_x1 (hC : zz_C p c cc nL s m own) {v u : Value} (hdg : decode cc pc = .ok (.dup_x1, 1)) (hv : v.category = 1) (hu : u.category = 1) (kk : Gd_ p l e R s m args below meth c Q N0 G a nL (k) (S) (pc + 1) (lv) (v :: u :: v :: st)) : Gd_ p l e R s m args below meth c Q N0 G a nL (k) (S) (pc) (lv) (v :: u :: st) := fun hR H locs ls hP hD hS hl => lv_dup_x1 hC.1 hC.2.1 hdg hv hu (kk hR H locs ls hP hD hS hl)
theorem gd_pop (hC : zz_C p c cc nL s m own) {v : Value} (hdg : decode cc pc = .ok (.pop, 1)) (hv : v.category = 1) (kk : Gd_ p l e R s m args below meth c Q N0 G a nL (k) (S) (pc + 1) (lv) (st)) : Gd_ p l e R s m args below meth c Q N0 G a nL (k) (S) (pc) (lv) (v :: st) := fun hR H locs ls hP hD hS hl => lv_pop hC.1 hC.2.1 hdg hv (kk hR H locs ls hP hD hS hl)
theorem gd_goto (hC : zz_C p c cc nL s m own) {off : Int} {tgt : Nat} (hdg : decode cc pc = .ok (.goto off, 3)) (ht : (pc : Int) + off = (tgt : Int)) (kk : Gd_ p l e R s m args below meth c Q N0 G a nL (k) (S) (tgt) (lv) (st)) : Gd_ p l e R s m args below meth c Q N0 G a nL (k) (S) (pc) (lv) (st) := fun hR H locs ls hP hD hS hl => lv_goto hC.1 hC.2.1 hdg ht (kk hR H locs ls hP hD hS hl)
theorem gd_iadd (hC : zz_C p c cc nL s m own) {x y : Int} (hdg : decode cc pc = .ok (.iadd, 1)) (kk : Gd_ p l e R s m args below meth c Q N0 G a nL (k) (S) (pc + 1) (lv) (zz_v (x + y) :: st)) : Gd_ p l e R s m args below meth c Q N0 G a nL (k) (S) (pc) (lv) (zz_v y :: zz_v x :: st) := fun hR H locs ls hP hD hS hl => lv_iadd hC.1 hC.2.1 hdg (by rw [← Int32.ofInt_add]; exact kk hR H locs ls hP hD hS hl)
theorem gd_isub (hC : zz_C p c cc nL s m own) {x y : Int} (hdg : decode cc pc = .ok (.isub, 1)) (kk : Gd_ p l e R s m args below meth c Q N0 G a nL (k) (S) (pc + 1) (lv) (zz_v (x - y) :: st)) : Gd_ p l e R s m args below meth c Q N0 G a nL (k) (S) (pc) (lv) (zz_v y :: zz_v x :: st) := fun hR H locs ls hP hD hS hl => lv_isub hC.1 hC.2.1 hdg (by rw [← Int32.ofInt_sub]; exact kk hR H locs ls hP hD hS hl)
theorem gd_imul (hC : zz_C p c cc nL s m own) {x y : Int} (hdg : decode cc pc = .ok (.imul, 1)) (kk : Gd_ p l e R s m args below meth c Q N0 G a nL (k) (S) (pc + 1) (lv) (zz_v (x * y) :: st)) : Gd_ p l e R s m args below meth c Q N0 G a nL (k) (S) (pc) (lv) (zz_v y :: zz_v x :: st) := fun hR H locs ls hP hD hS hl => lv_imul hC.1 hC.2.1 hdg (by rw [← Int32.ofInt_mul]; exact kk hR H locs ls hP hD hS hl)
theorem gd_idiv (hC : zz_C p c cc nL s m own) {x y : Int} (hdg : decode cc pc = .ok (.idiv, 1)) (hx : 0 ≤ x ∧ x < 2147483648) (hy : 0 < y ∧ y < 2147483648) (kk : Gd_ p l e R s m args below meth c Q N0 G a nL (k) (S) (pc + 1) (lv) (zz_v (x / y) :: st)) : Gd_ p l e R s m args below meth c Q N0 G a nL (k) (S) (pc) (lv) (zz_v y :: zz_v x :: st) := fun hR H locs ls hP hD hS hl => lv_idiv hC.1 hC.2.1 hdg (fun q => by have q2 := (zz_eq0 (show zz_R y from ⟨by omega, by omega⟩)).mp q; omega) (by
  have hX : zz_R x := ⟨by omega, by omega⟩
  have hY : zz_R y := ⟨by omega, by omega⟩
  have h9 : Int32.ofInt x / Int32.ofInt y = Int32.ofInt (x / y) := by
    rw [← Int32.toInt_inj, Int32.toInt_div_of_ne_right _ _ (fun q => by have q2 := congrArg Int32.toInt q; rw [zz_ti hY, show (-1 : Int32).toInt = -1 from rfl] at q2; omega), zz_ti hX, zz_ti hY, Int.tdiv_eq_ediv_of_nonneg hx.1, zz_ti]
    have d1 : 0 ≤ x / y := Int.ediv_nonneg hx.1 (by omega)
    have d2 : x / y ≤ x := Int.ediv_le_self _ hx.1
    exact ⟨by omega, by omega⟩
  rw [h9]
  exact kk hR H locs ls hP hD hS hl)

theorem gd_icmp_eq (hC : zz_C p c cc nL s m own) {x y off : Int} {tgt : Nat} (hdg : decode cc pc = .ok (.if_icmp .eq off, 3)) (ht : (pc : Int) + off = (tgt : Int)) (hx : zz_R x) (hy : zz_R y) (kt : x = y → Gd_ p l e R s m args below meth c Q N0 G a nL (k) (S) (tgt) (lv) (st)) (kf : ¬ x = y → Gd_ p l e R s m args below meth c Q N0 G a nL (k) (S) (pc + 3) (lv) (st)) : Gd_ p l e R s m args below meth c Q N0 G a nL (k) (S) (pc) (lv) (zz_v y :: zz_v x :: st) := fun hR H locs ls hP hD hS hl => lv_icmp_eq hC.1 hC.2.1 hdg ht (fun q => kt ((zz_eq hx hy).mp q) hR H locs ls hP hD hS hl) (fun q => kf (fun z => q ((zz_eq hx hy).mpr z)) hR H locs ls hP hD hS hl)
theorem gd_icmp_ne (hC : zz_C p c cc nL s m own) {x y off : Int} {tgt : Nat} (hdg : decode cc pc = .ok (.if_icmp .ne off, 3)) (ht : (pc : Int) + off = (tgt : Int)) (hx : zz_R x) (hy : zz_R y) (kt : ¬ x = y → Gd_ p l e R s m args below meth c Q N0 G a nL (k) (S) (tgt) (lv) (st)) (kf : x = y → Gd_ p l e R s m args below meth c Q N0 G a nL (k) (S) (pc + 3) (lv) (st)) : Gd_ p l e R s m args below meth c Q N0 G a nL (k) (S) (pc) (lv) (zz_v y :: zz_v x :: st) := fun hR H locs ls hP hD hS hl => lv_icmp_ne hC.1 hC.2.1 hdg ht (fun q => kt (fun z => q ((zz_eq hx hy).mpr z)) hR H locs ls hP hD hS hl) (fun q => kf ((zz_eq hx hy).mp q) hR H locs ls hP hD hS hl)
theorem gd_icmp_lt (hC : zz_C p c cc nL s m own) {x y off : Int} {tgt : Nat} (hdg : decode cc pc = .ok (.if_icmp .lt off, 3)) (ht : (pc : Int) + off = (tgt : Int)) (hx : zz_R x) (hy : zz_R y) (kt : x < y → Gd_ p l e R s m args below meth c Q N0 G a nL (k) (S) (tgt) (lv) (st)) (kf : ¬ x < y → Gd_ p l e R s m args below meth c Q N0 G a nL (k) (S) (pc + 3) (lv) (st)) : Gd_ p l e R s m args below meth c Q N0 G a nL (k) (S) (pc) (lv) (zz_v y :: zz_v x :: st) := fun hR H locs ls hP hD hS hl => lv_icmp_lt hC.1 hC.2.1 hdg ht (fun q => kt ((zz_lt hx hy).mp q) hR H locs ls hP hD hS hl) (fun q => kf (fun z => q ((zz_lt hx hy).mpr z)) hR H locs ls hP hD hS hl)
theorem gd_icmp_le (hC : zz_C p c cc nL s m own) {x y off : Int} {tgt : Nat} (hdg : decode cc pc = .ok (.if_icmp .le off, 3)) (ht : (pc : Int) + off = (tgt : Int)) (hx : zz_R x) (hy : zz_R y) (kt : x ≤ y → Gd_ p l e R s m args below meth c Q N0 G a nL (k) (S) (tgt) (lv) (st)) (kf : ¬ x ≤ y → Gd_ p l e R s m args below meth c Q N0 G a nL (k) (S) (pc + 3) (lv) (st)) : Gd_ p l e R s m args below meth c Q N0 G a nL (k) (S) (pc) (lv) (zz_v y :: zz_v x :: st) := fun hR H locs ls hP hD hS hl => lv_icmp_le hC.1 hC.2.1 hdg ht (fun q => kt ((zz_le hx hy).mp q) hR H locs ls hP hD hS hl) (fun q => kf (fun z => q ((zz_le hx hy).mpr z)) hR H locs ls hP hD hS hl)
theorem gd_icmp_gt (hC : zz_C p c cc nL s m own) {x y off : Int} {tgt : Nat} (hdg : decode cc pc = .ok (.if_icmp .gt off, 3)) (ht : (pc : Int) + off = (tgt : Int)) (hx : zz_R x) (hy : zz_R y) (kt : y < x → Gd_ p l e R s m args below meth c Q N0 G a nL (k) (S) (tgt) (lv) (st)) (kf : ¬ y < x → Gd_ p l e R s m args below meth c Q N0 G a nL (k) (S) (pc + 3) (lv) (st)) : Gd_ p l e R s m args below meth c Q N0 G a nL (k) (S) (pc) (lv) (zz_v y :: zz_v x :: st) := fun hR H locs ls hP hD hS hl => lv_icmp_gt hC.1 hC.2.1 hdg ht (fun q => kt ((zz_lt hy hx).mp q) hR H locs ls hP hD hS hl) (fun q => kf (fun z => q ((zz_lt hy hx).mpr z)) hR H locs ls hP hD hS hl)
theorem gd_icmp_ge (hC : zz_C p c cc nL s m own) {x y off : Int} {tgt : Nat} (hdg : decode cc pc = .ok (.if_icmp .ge off, 3)) (ht : (pc : Int) + off = (tgt : Int)) (hx : zz_R x) (hy : zz_R y) (kt : y ≤ x → Gd_ p l e R s m args below meth c Q N0 G a nL (k) (S) (tgt) (lv) (st)) (kf : ¬ y ≤ x → Gd_ p l e R s m args below meth c Q N0 G a nL (k) (S) (pc + 3) (lv) (st)) : Gd_ p l e R s m args below meth c Q N0 G a nL (k) (S) (pc) (lv) (zz_v y :: zz_v x :: st) := fun hR H locs ls hP hD hS hl => lv_icmp_ge hC.1 hC.2.1 hdg ht (fun q => kt ((zz_le hy hx).mp q) hR H locs ls hP hD hS hl) (fun q => kf (fun z => q ((zz_le hy hx).mpr z)) hR H locs ls hP hD hS hl)
theorem gd_if_eq (hC : zz_C p c cc nL s m own) {x off : Int} {tgt : Nat} (hdg : decode cc pc = .ok (.ifCond .eq off, 3)) (ht : (pc : Int) + off = (tgt : Int)) (hx : zz_R x) (kt : x = 0 → Gd_ p l e R s m args below meth c Q N0 G a nL (k) (S) (tgt) (lv) (st)) (kf : ¬ x = 0 → Gd_ p l e R s m args below meth c Q N0 G a nL (k) (S) (pc + 3) (lv) (st)) : Gd_ p l e R s m args below meth c Q N0 G a nL (k) (S) (pc) (lv) (zz_v x :: st) := fun hR H locs ls hP hD hS hl => lv_if_eq hC.1 hC.2.1 hdg ht (fun q => kt ((zz_eq0 hx).mp q) hR H locs ls hP hD hS hl) (fun q => kf (fun z => q ((zz_eq0 hx).mpr z)) hR H locs ls hP hD hS hl)
theorem gd_if_ne (hC : zz_C p c cc nL s m own) {x off : Int} {tgt : Nat} (hdg : decode cc pc = .ok (.ifCond .ne off, 3)) (ht : (pc : Int) + off = (tgt : Int)) (hx : zz_R x) (kt : ¬ x = 0 → Gd_ p l e R s m args below meth c Q N0 G a nL (k) (S) (tgt) (lv) (st)) (kf : x = 0 → Gd_ p l e R s m args below meth c Q N0 G a nL (k) (S) (pc + 3) (lv) (st)) : Gd_ p l e R s m args below meth c Q N0 G a nL (k) (S) (pc) (lv) (zz_v x :: st) := fun hR H locs ls hP hD hS hl => lv_if_ne hC.1 hC.2.1 hdg ht (fun q => kt (fun z => q ((zz_eq0 hx).mpr z)) hR H locs ls hP hD hS hl) (fun q => kf ((zz_eq0 hx).mp q) hR H locs ls hP hD hS hl)
theorem gd_if_lt (hC : zz_C p c cc nL s m own) {x off : Int} {tgt : Nat} (hdg : decode cc pc = .ok (.ifCond .lt off, 3)) (ht : (pc : Int) + off = (tgt : Int)) (hx : zz_R x) (kt : x < 0 → Gd_ p l e R s m args below meth c Q N0 G a nL (k) (S) (tgt) (lv) (st)) (kf : ¬ x < 0 → Gd_ p l e R s m args below meth c Q N0 G a nL (k) (S) (pc + 3) (lv) (st)) : Gd_ p l e R s m args below meth c Q N0 G a nL (k) (S) (pc) (lv) (zz_v x :: st) := fun hR H locs ls hP hD hS hl => lv_if_lt hC.1 hC.2.1 hdg ht (fun q => kt ((zz_lt0 hx).mp q) hR H locs ls hP hD hS hl) (fun q => kf (fun z => q ((zz_lt0 hx).mpr z)) hR H locs ls hP hD hS hl)
theorem gd_if_le (hC : zz_C p c cc nL s m own) {x off : Int} {tgt : Nat} (hdg : decode cc pc = .ok (.ifCond .le off, 3)) (ht : (pc : Int) + off = (tgt : Int)) (hx : zz_R x) (kt : x ≤ 0 → Gd_ p l e R s m args below meth c Q N0 G a nL (k) (S) (tgt) (lv) (st)) (kf : ¬ x ≤ 0 → Gd_ p l e R s m args below meth c Q N0 G a nL (k) (S) (pc + 3) (lv) (st)) : Gd_ p l e R s m args below meth c Q N0 G a nL (k) (S) (pc) (lv) (zz_v x :: st) := fun hR H locs ls hP hD hS hl => lv_if_le hC.1 hC.2.1 hdg ht (fun q => kt ((zz_le0 hx).mp q) hR H locs ls hP hD hS hl) (fun q => kf (fun z => q ((zz_le0 hx).mpr z)) hR H locs ls hP hD hS hl)
theorem gd_if_gt (hC : zz_C p c cc nL s m own) {x off : Int} {tgt : Nat} (hdg : decode cc pc = .ok (.ifCond .gt off, 3)) (ht : (pc : Int) + off = (tgt : Int)) (hx : zz_R x) (kt : 0 < x → Gd_ p l e R s m args below meth c Q N0 G a nL (k) (S) (tgt) (lv) (st)) (kf : ¬ 0 < x → Gd_ p l e R s m args below meth c Q N0 G a nL (k) (S) (pc + 3) (lv) (st)) : Gd_ p l e R s m args below meth c Q N0 G a nL (k) (S) (pc) (lv) (zz_v x :: st) := fun hR H locs ls hP hD hS hl => lv_if_gt hC.1 hC.2.1 hdg ht (fun q => kt ((zz_gt0 hx).mp q) hR H locs ls hP hD hS hl) (fun q => kf (fun z => q ((zz_gt0 hx).mpr z)) hR H locs ls hP hD hS hl)
theorem gd_if_ge (hC : zz_C p c cc nL s m own) {x off : Int} {tgt : Nat} (hdg : decode cc pc = .ok (.ifCond .ge off, 3)) (ht : (pc : Int) + off = (tgt : Int)) (hx : zz_R x) (kt : 0 ≤ x → Gd_ p l e R s m args below meth c Q N0 G a nL (k) (S) (tgt) (lv) (st)) (kf : ¬ 0 ≤ x → Gd_ p l e R s m args below meth c Q N0 G a nL (k) (S) (pc + 3) (lv) (st)) : Gd_ p l e R s m args below meth c Q N0 G a nL (k) (S) (pc) (lv) (zz_v x :: st) := fun hR H locs ls hP hD hS hl => lv_if_ge hC.1 hC.2.1 hdg ht (fun q => kt ((zz_ge0 hx).mp q) hR H locs ls hP hD hS hl) (fun q => kf (fun z => q ((zz_ge0 hx).mpr z)) hR H locs ls hP hD hS hl)
theorem gd_tableIn (hC : zz_C p c cc nL s m own) {dflt lo hi : Int} {offs : Array Int} {len : Nat} {x off : Int} {tgt : Nat} (hdg : decode cc pc = .ok (.tableswitch dflt lo hi offs, len)) (v : Int) (hv : x = v) (hr : zz_R v) (h1 : ¬ v < lo) (h2 : ¬ hi < v) (ho : offs[(v - lo).toNat]? = some off) (ht : (pc : Int) + off = (tgt : Int)) (kk : Gd_ p l e R s m args below meth c Q N0 G a nL (k) (S) (tgt) (lv) (st)) : Gd_ p l e R s m args below meth c Q N0 G a nL (k) (S) (pc) (lv) (zz_v x :: st) := fun hR H locs ls hP hD hS hl => by
  subst hv
  exact lv_tableIn hC.1 hC.2.1 hdg (by rw [zz_ti hr]; exact h1) (by rw [zz_ti hr]; exact h2) (by rw [zz_ti hr]; exact ho) ht (kk hR H locs ls hP hD hS hl)
theorem gd_tableOut (hC : zz_C p c cc nL s m own) {dflt lo hi : Int} {offs : Array Int} {len : Nat} {x : Int} {tgt : Nat} (hdg : decode cc pc = .ok (.tableswitch dflt lo hi offs, len)) (hr : zz_R x) (h : x < lo ∨ hi < x) (ht : (pc : Int) + dflt = (tgt : Int)) (kk : Gd_ p l e R s m args below meth c Q N0 G a nL (k) (S) (tgt) (lv) (st)) : Gd_ p l e R s m args below meth c Q N0 G a nL (k) (S) (pc) (lv) (zz_v x :: st) := fun hR H locs ls hP hD hS hl => lv_tableOut hC.1 hC.2.1 hdg (by rw [zz_ti hr]; exact h) ht (kk hR H locs ls hP hD hS hl)

theorem gd_getI (hC : zz_C p c cc nL s m own) {ref C : String} {T : u_T} {N ci index b : Nat} (hcw : ∀ w ∈ u_ws C T N, w.before args s = true) (hK : va_K G.1 vwCl (zz_T G) s) {rf : Nat → Option Nat} (hk : zz_k b = (0, ci, N, rf)) (hb : b < 100) (hc : vwCl[ci]? = some (C, T, N)) (f : Nat) (hf : f < N) (hrf : rf f = none) (hlink : (Cond.fieldLink own index ref (T f).2.1 (T f).2.2.1).before args s = true) (hsame : (T f).1 = ref) (hdg : decode cc pc = .ok (.getfield index, 3)) (kk : zz_R (S b f) → Gd_ p l e R s m args below meth c Q N0 G a nL (k) (S) (pc + 3) (lv) (zz_v (S b f) :: st)) : Gd_ p l e R s m args below meth c Q N0 G a nL (k) (S) (pc) (lv) (.ref (a b) :: st) := fun hR H locs ls hP hD hS hl => va_get hC.1 hC.2.1 hcw (fun _ h => h) hC.2.2.2 hK hP b (by rw [zz_W_get hb, hk, zz_cO]) hc f hf hlink (fun x h => by rw [← hsame]; exact h) (by rw [zz_fat hf]; simp only [zz_f, hrf]) hdg (kk (hR b f) hR H locs ls hP hD hS hl)
theorem gd_getR (hC : zz_C p c cc nL s m own) {ref C : String} {T : u_T} {N ci index b : Nat} (hcw : ∀ w ∈ u_ws C T N, w.before args s = true) (hK : va_K G.1 vwCl (zz_T G) s) {rf : Nat → Option Nat} (hk : zz_k b = (0, ci, N, rf)) (hb : b < 100) (hc : vwCl[ci]? = some (C, T, N)) (f : Nat) (hf : f < N) {j : Nat} (hrf : rf f = some j) (hlink : (Cond.fieldLink own index ref (T f).2.1 (T f).2.2.1).before args s = true) (hsame : (T f).1 = ref) (hdg : decode cc pc = .ok (.getfield index, 3)) (kk : Gd_ p l e R s m args below meth c Q N0 G a nL (k) (S) (pc + 3) (lv) (.ref (a j) :: st)) : Gd_ p l e R s m args below meth c Q N0 G a nL (k) (S) (pc) (lv) (.ref (a b) :: st) := fun hR H locs ls hP hD hS hl => va_get hC.1 hC.2.1 hcw (fun _ h => h) hC.2.2.2 hK hP b (by rw [zz_W_get hb, hk, zz_cO]) hc f hf hlink (fun x h => by rw [← hsame]; exact h) (by rw [zz_fat hf]; simp only [zz_f, hrf]) hdg (kk hR H locs ls hP hD hS hl)
theorem gd_put (hC : zz_C p c cc nL s m own) {ref C : String} {T : u_T} {N ci index b : Nat} (hcw : ∀ w ∈ u_ws C T N, w.before args s = true) (ty0 : Nat → FieldType) (hty : ∀ k, k < N → parseFieldDescriptor (T k).2.2.1 = some (ty0 k)) (hnm : ∀ a, a < N → ∀ b, b < N → a ≠ b → (T a).2.1 ≠ (T b).2.1) (hK : va_K G.1 vwCl (zz_T G) s) {rf : Nat → Option Nat} (hk : zz_k b = (0, ci, N, rf)) (hb : b < 100) (hc : vwCl[ci]? = some (C, T, N)) (f : Nat) (hf : f < N) (hrf : rf f = none) (hlink : (Cond.fieldLink own index ref (T f).2.1 (T f).2.2.1).before args s = true) (hsame : (T f).1 = ref) (hfin : (T f).2.2.2 = false) {ty : FieldType} {z : Int} (hd : parseFieldDescriptor (T f).2.2.1 = some ty) (hn : narrow ty (zz_v z) = zz_v z) (hfit : fits ty (zz_v z) = true) (hz : zz_R z) (hdg : decode cc pc = .ok (.putfield index, 3)) (kk : Gd_ p l e R s m args below meth c Q N0 G a nL (k) (zz_u S b f z) (pc + 3) (lv) (st)) : Gd_ p l e R s m args below meth c Q N0 G a nL (k) (S) (pc) (lv) (zz_v z :: .ref (a b) :: st) := fun hR H locs ls hP hD hS hl => va_put hC.1 hC.2.1 hcw (fun _ h => h) ty0 hty hnm hC.2.2.2 hK hP hD hS b (by rw [zz_W_get hb, hk, zz_cO]) hc f hf hlink (fun x h => by rw [← hsame]; exact h) hfin hd hn hfit (by rw [List.length_map, List.length_range]; exact hf) hdg (fun H1 locs1 hP1 hD1 hS1 => by
  have h9 : (zz_W G a S).set b (a b, .inr (ci, ((List.range N).map (zz_f a (S b) rf)).set f (zz_v z))) = zz_W G a (zz_u S b f z) := zz_W_set hb (by rw [hk, zz_cO, zz_u_row, zz_fset hrf hf]) (fun j hj => zz_u_off S z hj)
  rw [h9] at hP1 hD1
  exact kk (zz_Rg_u hR hz) H1 locs1 ls hP1 hD1 hS1 hl)
theorem gd_iald (hC : zz_C p c cc nL s m own) (hK : va_K G.1 vwCl (zz_T G) s) {b n j : Nat} {i : Int} {rf : Nat → Option Nat} (hk : zz_k b = (1, 0, n, rf)) (hb : b < 100) (hi : i = (j : Int)) (hj : j < n) (hn : n < 2147483648) (hdg : decode cc pc = .ok (.iaload, 1)) (kk : zz_R (S b j) → Gd_ p l e R s m args below meth c Q N0 G a nL (k) (S) (pc + 1) (lv) (zz_v (S b j) :: st)) : Gd_ p l e R s m args below meth c Q N0 G a nL (k) (S) (pc) (lv) (zz_v i :: .ref (a b) :: st) := fun hR H locs ls hP hD hS hl => va_iald hC.1 hC.2.1 hK hP b 0 (by rw [zz_W_get hb, hk, zz_cA]) rfl (zz_in hi hj hn) hdg (by rw [zz_cl hi (by omega)]; exact kk (hR b j) hR H locs ls hP hD hS hl)
theorem gd_cald (hC : zz_C p c cc nL s m own) (hK : va_K G.1 vwCl (zz_T G) s) {b n j : Nat} {i : Int} {rf : Nat → Option Nat} (hk : zz_k b = (1, 1, n, rf)) (hb : b < 100) (hi : i = (j : Int)) (hj : j < n) (hn : n < 2147483648) (hdg : decode cc pc = .ok (.caload, 1)) (kk : zz_R (S b j) → Gd_ p l e R s m args below meth c Q N0 G a nL (k) (S) (pc + 1) (lv) (zz_v (S b j) :: st)) : Gd_ p l e R s m args below meth c Q N0 G a nL (k) (S) (pc) (lv) (zz_v i :: .ref (a b) :: st) := fun hR H locs ls hP hD hS hl => va_cald hC.1 hC.2.1 hK hP b 1 (by rw [zz_W_get hb, hk, zz_cA]) rfl (zz_in hi hj hn) hdg (by rw [zz_cl hi (by omega)]; exact kk (hR b j) hR H locs ls hP hD hS hl)
theorem gd_zald (hC : zz_C p c cc nL s m own) (hK : va_K G.1 vwCl (zz_T G) s) {b n j : Nat} {i : Int} {rf : Nat → Option Nat} (hk : zz_k b = (1, 2, n, rf)) (hb : b < 100) (hi : i = (j : Int)) (hj : j < n) (hn : n < 2147483648) (hdg : decode cc pc = .ok (.baload, 1)) (kk : zz_R (S b j) → Gd_ p l e R s m args below meth c Q N0 G a nL (k) (S) (pc + 1) (lv) (zz_v (S b j) :: st)) : Gd_ p l e R s m args below meth c Q N0 G a nL (k) (S) (pc) (lv) (zz_v i :: .ref (a b) :: st) := fun hR H locs ls hP hD hS hl => va_zald hC.1 hC.2.1 hK hP b 2 (by rw [zz_W_get hb, hk, zz_cA]) rfl (zz_in hi hj hn) hdg (by rw [zz_cl hi (by omega)]; exact kk (hR b j) hR H locs ls hP hD hS hl)
theorem gd_aald (hC : zz_C p c cc nL s m own) (hK : va_K G.1 vwCl (zz_T G) s) {b n j t q : Nat} {i : Int} {Cn : String} {rf : Nat → Option Nat} (hk : zz_k b = (2, t, n, rf)) (hb : b < 100) (ht : (zz_T G)[t]? = some (G.2 t, .object Cn)) (hi : i = (j : Int)) (hj : j < n) (hn : n < 2147483648) (hq : rf j = some q) (hdg : decode cc pc = .ok (.aaload, 1)) (kk : Gd_ p l e R s m args below meth c Q N0 G a nL (k) (S) (pc + 1) (lv) (.ref (a q) :: st)) : Gd_ p l e R s m args below meth c Q N0 G a nL (k) (S) (pc) (lv) (zz_v i :: .ref (a b) :: st) := fun hR H locs ls hP hD hS hl => va_aldq hC.1 hC.2.1 hK hP b t (by rw [zz_W_get hb, hk, zz_cR]) ht (zz_in hi hj hn) hdg (by
  rw [zz_cl hi (by omega), hq]
  exact kk hR H locs ls hP hD hS hl)
theorem gd_lald (hC : zz_C p c cc nL s m own) (hK : va_K G.1 vwCl (zz_T G) s) {b n j : Nat} {i : Int} {rf : Nat → Option Nat} (hk : zz_k b = (3, 5, n, rf)) (hb : b < 100) (hi : i = (j : Int)) (hj : j < n) (hn : n < 2147483648) (hdg : decode cc pc = .ok (.laload, 1)) (kk : zz_R (S b j) → Gd_ p l e R s m args below meth c Q N0 G a nL (k) (S) (pc + 1) (lv) (zz_l (S b j) :: st)) : Gd_ p l e R s m args below meth c Q N0 G a nL (k) (S) (pc) (lv) (zz_v i :: .ref (a b) :: st) := fun hR H locs ls hP hD hS hl => va_lald hC.1 hC.2.1 hK hP b 5 (by rw [zz_W_get hb, hk, zz_cL]) rfl (zz_in hi hj hn) hdg (by rw [zz_cl hi (by omega)]; exact kk (hR b j) hR H locs ls hP hD hS hl)
theorem gd_iast (hC : zz_C p c cc nL s m own) (hK : va_K G.1 vwCl (zz_T G) s) {b n j : Nat} {i z : Int} {rf : Nat → Option Nat} (hk : zz_k b = (1, 0, n, rf)) (hb : b < 100) (hi : i = (j : Int)) (hj : j < n) (hn : n < 2147483648) (hz : zz_R z) (hdg : decode cc pc = .ok (.iastore, 1)) (kk : Gd_ p l e R s m args below meth c Q N0 G a nL (k) (zz_u S b j z) (pc + 1) (lv) (st)) : Gd_ p l e R s m args below meth c Q N0 G a nL (k) (S) (pc) (lv) (zz_v z :: zz_v i :: .ref (a b) :: st) := fun hR H locs ls hP hD hS hl => va_iast hC.1 hC.2.1 hK hP hD hS b 0 (by rw [zz_W_get hb, hk, zz_cA]) rfl (zz_in hi hj hn) hdg (fun H1 locs1 hP1 hD1 hS1 => by
  rw [zz_cl hi (by omega), zz_uA, zz_W_set (S' := zz_u S b j z) hb (by rw [hk, zz_cA, zz_u_row]) (fun q hq => zz_u_off S z hq)] at hP1 hD1
  exact kk (zz_Rg_u hR hz) H1 locs1 ls hP1 hD1 hS1 hl)
theorem gd_cast (hC : zz_C p c cc nL s m own) (hK : va_K G.1 vwCl (zz_T G) s) {b n j : Nat} {i z : Int} {rf : Nat → Option Nat} (hk : zz_k b = (1, 1, n, rf)) (hb : b < 100) (hi : i = (j : Int)) (hj : j < n) (hn : n < 2147483648) (hz : zz_R z) (hnar : vp_nar .char (Int32.ofInt z) = Int32.ofInt z) (hdg : decode cc pc = .ok (.castore, 1)) (kk : Gd_ p l e R s m args below meth c Q N0 G a nL (k) (zz_u S b j z) (pc + 1) (lv) (st)) : Gd_ p l e R s m args below meth c Q N0 G a nL (k) (S) (pc) (lv) (zz_v z :: zz_v i :: .ref (a b) :: st) := fun hR H locs ls hP hD hS hl => va_cast hC.1 hC.2.1 hK hP hD hS b 1 (by rw [zz_W_get hb, hk, zz_cA]) rfl (zz_in hi hj hn) hdg (fun H1 locs1 hP1 hD1 hS1 => by
  rw [hnar, zz_cl hi (by omega), zz_uA, zz_W_set (S' := zz_u S b j z) hb (by rw [hk, zz_cA, zz_u_row]) (fun q hq => zz_u_off S z hq)] at hP1 hD1
  exact kk (zz_Rg_u hR hz) H1 locs1 ls hP1 hD1 hS1 hl)
theorem gd_zast (hC : zz_C p c cc nL s m own) (hK : va_K G.1 vwCl (zz_T G) s) {b n j : Nat} {i z : Int} {rf : Nat → Option Nat} (hk : zz_k b = (1, 2, n, rf)) (hb : b < 100) (hi : i = (j : Int)) (hj : j < n) (hn : n < 2147483648) (hz : zz_R z) (hnar : vp_nar .boolean (Int32.ofInt z) = Int32.ofInt z) (hdg : decode cc pc = .ok (.bastore, 1)) (kk : Gd_ p l e R s m args below meth c Q N0 G a nL (k) (zz_u S b j z) (pc + 1) (lv) (st)) : Gd_ p l e R s m args below meth c Q N0 G a nL (k) (S) (pc) (lv) (zz_v z :: zz_v i :: .ref (a b) :: st) := fun hR H locs ls hP hD hS hl => va_zast hC.1 hC.2.1 hK hP hD hS b 2 (by rw [zz_W_get hb, hk, zz_cA]) rfl (zz_in hi hj hn) hdg (fun H1 locs1 hP1 hD1 hS1 => by
  rw [hnar, zz_cl hi (by omega), zz_uA, zz_W_set (S' := zz_u S b j z) hb (by rw [hk, zz_cA, zz_u_row]) (fun q hq => zz_u_off S z hq)] at hP1 hD1
  exact kk (zz_Rg_u hR hz) H1 locs1 ls hP1 hD1 hS1 hl)
theorem gd_last (hC : zz_C p c cc nL s m own) (hK : va_K G.1 vwCl (zz_T G) s) {b n j : Nat} {i z : Int} {rf : Nat → Option Nat} (hk : zz_k b = (3, 5, n, rf)) (hb : b < 100) (hi : i = (j : Int)) (hj : j < n) (hn : n < 2147483648) (hz : zz_R z) (hdg : decode cc pc = .ok (.lastore, 1)) (kk : Gd_ p l e R s m args below meth c Q N0 G a nL (k) (zz_u S b j z) (pc + 1) (lv) (st)) : Gd_ p l e R s m args below meth c Q N0 G a nL (k) (S) (pc) (lv) (zz_l z :: zz_v i :: .ref (a b) :: st) := fun hR H locs ls hP hD hS hl => va_last hC.1 hC.2.1 hK hP hD hS b 5 (by rw [zz_W_get hb, hk, zz_cL]) rfl (zz_in hi hj hn) hdg (fun H1 locs1 hP1 hD1 hS1 => by
  rw [zz_cl hi (by omega), zz_uL, zz_W_set (S' := zz_u S b j z) hb (by rw [hk, zz_cL, zz_u_row]) (fun q hq => zz_u_off S z hq)] at hP1 hD1
  exact kk (zz_Rg_u hR hz) H1 locs1 ls hP1 hD1 hS1 hl)
theorem gd_i2l (hC : zz_C p c cc nL s m own) {z : Int} (hz : zz_R z) (hdg : decode cc pc = .ok (.i2l, 1)) (kk : Gd_ p l e R s m args below meth c Q N0 G a nL (k) (S) (pc + 1) (lv) (zz_l z :: st)) : Gd_ p l e R s m args below meth c Q N0 G a nL (k) (S) (pc) (lv) (zz_v z :: st) := fun hR H locs ls hP hD hS hl => lv_i2l hC.1 hC.2.1 hdg (by
  have h1 := hz.1
  have h2 := hz.2
  exact Int32.toInt64_ofInt (by rw [show Int32.minValue.toInt = -2147483648 from rfl]; exact h1) (by rw [show Int32.maxValue.toInt = 2147483647 from rfl]; omega)) (kk hR H locs ls hP hD hS hl)

end ZG
end
section
/-! what a state gives besides the world: the statics that a throw reads, the class's texts, the four words -/
def zz_tx : List (Nat × String) := [(43, "not a letter from a to z"), (54, "the word is full"), (64, "no more offices"), (66, "an office cannot be let act for itself"), (89, "no more acts"), (109, "that person made a plea of it"), (114, "the complaint is barred"), (136, "not open, or asked for before"), (147, "no file is owed"), (152, "not open, not answered, or heard before"), (154, "not open, or the officer was not heard"), (162, "not found with a fault"), (171, "above the last day"), (208, "there is none of that number"), (211, "out of its range"), (238, "no more complaints")]
def zz_wl : List Nat := [5, 7, 4, 6]
def zz_wb : List (List Int32) := [[100, 101, 108, 97, 121], [112, 114, 111, 109, 105, 115, 101], [114, 117, 108, 101], [97, 110, 115, 119, 101, 114]]
def zz_wi : List (Nat × String) := [(213, "delay"), (215, "promise"), (217, "rule"), (219, "answer")]
def zz_ex : List String := ["java/lang/IndexOutOfBoundsException", "java/lang/IllegalArgumentException", "java/lang/IllegalStateException"]
def zz_dc : List String := ["java/lang/RuntimeException", "java/lang/Exception", "java/lang/Throwable"]
theorem zz_warmD {x : MethodName} {s U : State} (hW : s.WarmedH U.vm) (hZ : va_Nw (.declares x) s) : va_Nw (.declares x) U := va_tabs rfl (rfl : (s.setVm U.vm).vm = U.vm) (by rw [Cond.declares_setVm hW.alike]; exact hZ)
abbrev zz_Y : Type := (Nat → Nat) × (Nat → Nat)
def zz_E (N0 : Nat) (Y : zz_Y) (U : State) : Prop := vx_Zq Bundle.tN "UNASSIGNED_STACK" Bundle.steD (zz_A N0) U U.heap ∧ vx_Zq Bundle.tN "SUPPRESSED_SENTINEL" Bundle.listD (zz_A N0) U U.heap ∧ (∀ q ∈ zz_tx, ∃ sa : Nat, vk_R RX3 q.1 q.2 sa U) ∧ vk_S 4 zz_wl zz_wb Y.1 Y.2 (zz_A N0) U U.heap ∧ (∀ (i : Nat) (q : Nat × String), zz_wi[i]? = some q → vk_R RX3 q.1 q.2 (Y.1 i) U) ∧ (∀ E ∈ zz_ex, va_Nw (.castable E E) U) ∧ (∀ E ∈ zz_ex, ∀ E2 ∈ zz_ex, E ≠ E2 → va_Nc E E2 U) ∧ ∀ n ∈ zz_dc, va_Nw (.declares (Bundle.initS n)) U
/-- the environment of a state seen from a later one: the old cells below N0 unchanged -/
theorem zz_E_warm {N0 : Nat} {Y : zz_Y} {s U : State} {H : Heap} {locs : List Loc} (h : zz_E N0 Y s) (hS : va_S (zz_A N0) s.heap H locs) (hU : U.heap = H) (hW : s.WarmedH U.vm) : zz_E N0 Y U := by
  obtain ⟨h1, h2, h3, h4, h5, h6, h7, h8⟩ := h
  subst hU
  exact ⟨vx_Zq.moved hW.alike (h1.kept hS.2.1), vx_Zq.moved hW.alike (h2.kept hS.2.1), fun q hq => by
    obtain ⟨sa, hsa⟩ := h3 q hq
    exact ⟨sa, hsa.warm hW⟩, vk_S.moved hW.alike (h4.kept hS.2.1), fun i q hq => (h5 i q hq).warm hW, fun E hE => va_Nw.warmC hW (h6 E hE), fun E hE E2 hE2 hn => va_Nc.moved hW.alike (h7 E hE E2 hE2 hn), fun n hn => zz_warmD hW (h8 n hn)⟩
/-- what holds ahead of a call: the whole world, and what stands beside it -/
def zz_P (N0 : Nat) (G : zz_G) (Y : zz_Y) (a : Nat → Nat) (S : zz_S) (U : State) : Prop := N0 ≤ U.heap.size ∧ va_P G.1 vwCl (zz_W G a S) U.heap ∧ va_K G.1 vwCl (zz_T G) U ∧ va_D (zz_A N0) (zz_W G a S) ∧ zz_Rg S ∧ zz_E N0 Y U
def zz_B (N0 : Nat) (G : zz_G) (a : Nat → Nat) (S : zz_S) (t : State) : Prop := va_P G.1 vwCl (zz_W G a S) t.heap ∧ va_D (zz_A N0) (zz_W G a S) ∧ zz_Rg S
theorem zz_blind {N0 : Nat} {G : zz_G} {Y : zz_Y} {a : Nat → Nat} {S : zz_S} {av : List Value} : FrameBlind (va_Pc av (zz_P N0 G Y a S)) := by
  intro v U g mk h
  obtain ⟨h0, h1, h2, h3, h4, h5, h6⟩ := h
  have hW : U.WarmedH (U.calling g mk v).vm := State.WarmedH.refl U
  exact ⟨h0, h1, h2, va_K.moved (u := U) (U := U.calling g mk v) (Vm.Alike.refl U.vm) h3, h4, h5, zz_E_warm (s := U) (H := U.heap) (locs := []) h6 va_S.rf rfl hW⟩
/-- a contract: from the world S the method returns as 'post' says, or throws as 'px' says; at most K thrown objects are made -/
def zz_Q (N0 : Nat) (G : zz_G) (a : Nat → Nat) (post : Option Value → zz_S → Prop) : Array Value → State → Outcome → State → Prop := fun _ st0 oc t => (∃ (v : Option Value) (S' : zz_S), oc = .returned v ∧ post v S' ∧ zz_B N0 G a S' t) ∧ va_F (zz_A N0) st0 t
def zz_X (N0 : Nat) (G : zz_G) (a : Nat → Nat) (px : String → zz_S → Prop) : String → State → State → Prop := fun E st0 t => (∃ S' : zz_S, px E S' ∧ zz_B N0 G a S' t) ∧ va_F (zz_A N0) st0 t
def Ct_ (l : Launch) (y : MethodName) (ws : List Cond) (rm : Room) (K : Nat) (av : List Value) (N0 : Nat) (G : zz_G) (Y : zz_Y) (a : Nat → Nat) (S : zz_S) (post : Option Value → zz_S → Prop) (px : String → zz_S → Prop) : Prop :=
  vx_Met l y ws rm (va_Pc av (zz_P N0 G Y a S)) (zz_Q N0 G a post) (zz_X N0 G a px) K (6 * K) (zz_A N0)
/-- which exceptions, and when -/
def zz_xc (E : String) (X1 X2 X3 : Prop) : Prop := (E = "java/lang/IndexOutOfBoundsException" ∧ X1) ∨ (E = "java/lang/IllegalArgumentException" ∧ X2) ∨ (E = "java/lang/IllegalStateException" ∧ X3)
theorem zz_xm {E : String} {X1 X2 X3 Z1 Z2 Z3 : Prop} (h1 : X1 → Z1) (h2 : X2 → Z2) (h3 : X3 → Z3) (h : zz_xc E X1 X2 X3) : zz_xc E Z1 Z2 Z3 := by
  rcases h with ⟨q1, q2⟩ | ⟨q1, q2⟩ | ⟨q1, q2⟩
  · exact Or.inl ⟨q1, h1 q2⟩
  · exact Or.inr (Or.inl ⟨q1, h2 q2⟩)
  · exact Or.inr (Or.inr ⟨q1, h3 q2⟩)
theorem zz_xn {E : String} {C : Prop} (h : zz_xc E False False False) : C := by
  rcases h with ⟨-, q⟩ | ⟨-, q⟩ | ⟨-, q⟩ <;> exact q.elim
/-- .. that answers the whole number e, leaves the world S1, where F holds -/
def CtR (l : Launch) (y : MethodName) (ws : List Cond) (rm : Room) (K : Nat) (av : List Value) (N0 : Nat) (G : zz_G) (Y : zz_Y) (a : Nat → Nat) (S : zz_S) (e : Int) (S1 : zz_S) (F X1 X2 X3 : Prop) : Prop :=
  Ct_ l y ws rm K av N0 G Y a S (fun v S' => ∃ r : Int, zz_R r ∧ v = some (zz_v r) ∧ S' = S1 ∧ r = e ∧ F) (fun E S' => S' = S ∧ zz_xc E X1 X2 X3)
/-- .. nothing -/
def CtN (l : Launch) (y : MethodName) (ws : List Cond) (rm : Room) (K : Nat) (av : List Value) (N0 : Nat) (G : zz_G) (Y : zz_Y) (a : Nat → Nat) (S : zz_S) (S1 : zz_S) (F X1 X2 X3 : Prop) : Prop :=
  Ct_ l y ws rm K av N0 G Y a S (fun v S' => v = none ∧ S' = S1 ∧ F) (fun E S' => S' = S ∧ zz_xc E X1 X2 X3)
/-- .. one of the four words, by its place -/
def CtW (l : Launch) (y : MethodName) (ws : List Cond) (rm : Room) (K : Nat) (av : List Value) (N0 : Nat) (G : zz_G) (Y : zz_Y) (a : Nat → Nat) (S : zz_S) (i : Nat) : Prop :=
  Ct_ l y ws rm K av N0 G Y a S (fun v S' => v = some (.ref (Y.1 i)) ∧ S' = S) (fun E S' => S' = S ∧ zz_xc E False False False)

theorem zz_nb {z : Int} (h : z = 0 ∨ z = 1) : narrow .boolean (zz_v z) = zz_v z := by rcases h with rfl | rfl <;> rfl
theorem zz_fb {z : Int} (h : z = 0 ∨ z = 1) : fits .boolean (zz_v z) = true := by rcases h with rfl | rfl <;> rfl
theorem zz_nz {z : Int} (h : z = 0 ∨ z = 1) : vp_nar .boolean (Int32.ofInt z) = Int32.ofInt z := by rcases h with rfl | rfl <;> rfl
theorem zz_nN {n : Nat} : Int32.ofInt (n : Int) = nI n := Int32.ofInt_eq_ofNat
theorem zz_nc {z : Int} (h : 0 ≤ z ∧ z < 65536) : vp_nar .char (Int32.ofInt z) = Int32.ofInt z := by
  obtain ⟨n, rfl⟩ : ∃ n : Nat, z = (n : Int) := ⟨z.toNat, by omega⟩
  rw [zz_nN, vp_nar_char]
  have h1 := (pk_charN (q := n) (by omega)).1
  rw [show (nI n).toUInt32.toUInt16.toUInt32.toInt32 = vp_nar .char (nI n) from (vp_nar_char _).symm]
  unfold vp_nar
  rw [h1]
/-- as lcmp answers -/
def zz_cmp3 (x y : Int) : Int := if y < x then 1 else if x = y then 0 else -1
theorem zz_tl {z : Int} (h : zz_R z) : (Int64.ofInt z).toInt = z := by
  obtain ⟨h1, h2⟩ := h
  rw [Int64.toInt_ofInt, show Int64.size = 2 ^ 64 from rfl, Int.bmod_eq_of_le (by omega) (by omega)]
theorem zz_cmp3_eq {x y : Int} (hx : zz_R x) (hy : zz_R y) : lg_cmp (Int64.ofInt x) (Int64.ofInt y) = Int32.ofInt (zz_cmp3 x y) := by
  have e1 : Int64.ofInt y < Int64.ofInt x ↔ y < x := by rw [Int64.lt_iff_toInt_lt, zz_tl hx, zz_tl hy]
  have e2 : Int64.ofInt x = Int64.ofInt y ↔ x = y := by rw [← Int64.toInt_inj, zz_tl hx, zz_tl hy]
  unfold zz_cmp3
  by_cases h1 : y < x
  · rw [if_pos h1]
    simp [lg_cmp, e1.mpr h1]
  · have h1' : ¬ Int64.ofInt y < Int64.ofInt x := fun z => h1 (e1.mp z)
    rw [if_neg h1]
    by_cases h2 : x = y
    · rw [if_pos h2]
      have h2' := e2.mpr h2
      simp [lg_cmp, h2']
    · rw [if_neg h2]
      have h2' : ¬ Int64.ofInt x = Int64.ofInt y := fun z => h2 (e2.mp z)
      simp [lg_cmp, h1', h2']
theorem zz_shl {y : Int} (hy : 0 ≤ y ∧ y < 16) : Int32.ofInt 1 <<< (Int32.ofInt y &&& 31) = Int32.ofInt ((2 ^ y.toNat : Nat) : Int) := by
  have key : ∀ n : Nat, n < 16 → Int32.ofInt 1 <<< (nI n &&& 31) = nI (2 ^ n) := by decide +kernel
  obtain ⟨n, rfl⟩ : ∃ n : Nat, y = (n : Int) := ⟨y.toNat, by omega⟩
  rw [zz_nN, key n (by omega), zz_nN, Int.toNat_natCast]
theorem zz_shr {x y : Int} (hx : 0 ≤ x ∧ x < 2147483648) (hy : 0 ≤ y ∧ y < 16) : Int32.ofInt x >>> (Int32.ofInt y &&& 31) = Int32.ofInt ((x.toNat / 2 ^ y.toNat : Nat) : Int) := by
  have key : ∀ n : Nat, n < 16 → ((nI n &&& 31).toBitVec.smod 32).toNat = n := by decide +kernel
  obtain ⟨n, rfl⟩ : ∃ n : Nat, y = (n : Int) := ⟨y.toNat, by omega⟩
  obtain ⟨j, rfl⟩ : ∃ j : Nat, x = (j : Int) := ⟨x.toNat, by omega⟩
  rw [zz_nN, zz_nN, zz_nN, pk_shrN (by omega) _ n (key n (by omega)), Int.toNat_natCast, Int.toNat_natCast]
theorem zz_and1 {n : Nat} : Int32.ofInt ((n : Nat) : Int) &&& Int32.ofInt 1 = Int32.ofInt ((n % 2 : Nat) : Int) := by
  have key : ∀ b : Nat, nI n &&& nI b = nI (n &&& b) := by
    intro b
    apply Int32.toBitVec_inj.1
    show BitVec.ofNat 32 n &&& BitVec.ofNat 32 b = BitVec.ofNat 32 (n &&& b)
    apply BitVec.eq_of_getLsbD_eq
    intro i hi
    simp [hi]
  have h1 := key 1
  rw [Nat.and_one_is_mod] at h1
  rw [zz_nN, zz_nN]
  exact h1
theorem zz_or {x y : Int} (hx : 0 ≤ x ∧ x < 65536) (hy : 0 ≤ y ∧ y < 65536) : Int32.ofInt x ||| Int32.ofInt y = Int32.ofInt ((x.toNat ||| y.toNat : Nat) : Int) := by
  obtain ⟨n, rfl⟩ : ∃ n : Nat, x = (n : Int) := ⟨x.toNat, by omega⟩
  obtain ⟨j, rfl⟩ : ∃ j : Nat, y = (j : Int) := ⟨y.toNat, by omega⟩
  rw [zz_nN, zz_nN, zz_nN, Int.toNat_natCast, Int.toNat_natCast]
  apply Int32.toBitVec_inj.1
  show BitVec.ofNat 32 n ||| BitVec.ofNat 32 j = BitVec.ofNat 32 (n ||| j)
  apply BitVec.eq_of_getLsbD_eq
  intro i hi
  simp [hi]

section ZH
variable {p : Program} {l : Launch} {e : Env} {R : Room} {s : State} {m : MethodId} {args : Array Value} {below : List Frame} {meth : Method} {c : Code} {Q : State → Prop} {N0 : Nat} {G : zz_G} {a : Nat → Nat} {nL k : Nat} {S : zz_S} {pc : Nat} {lv : List (Nat × Value)} {st : List Value} {cc : ByteArray} {own : String}

theorem gd_call {rm : Room} {K : Nat} {av : List Value} {Y : zz_Y} {mc ms : Nat} {post : Option Value → zz_S → Prop} {px : String → zz_S → Prop} {st0 rest : List Value} (hms : ms = 6 * mc)
    (hr : zz_Rg S → ∀ (H : Heap) (locs : List Loc) (ls : Array Slot), va_P G.1 vwCl (zz_W G a S) H → va_D (zz_A N0) (zz_W G a S) → va_S (zz_A N0) s.heap H locs → lv_has ls nL lv → vx_Run p l e R s m args below meth c H locs k (6 * k) mc ms (F0 m pc ls st0) rest (zz_Q N0 G a post av.toArray) (zz_X N0 G a px) (zz_A N0))
    (kx : ∀ (E : String) (S' : zz_S), px E S' → Gx_ p l e R s m args below meth c Q N0 G a nL (k + mc) (S') (pc) (lv) (rest) (E))
    (kk : ∀ (v : Option Value) (S' : zz_S), post v S' → Gd_ p l e R s m args below meth c Q N0 G a nL (k + mc) (S') (pc + 3) (lv) (v.toList ++ rest)) : Gd_ p l e R s m args below meth c Q N0 G a nL (k) (S) (pc) (lv) (st0) := by
  intro hR H locs ls hP hD hS hl T hT X
  have e6 : 6 * k + ms = 6 * (k + mc) := by rw [hms]; omega
  rcases hr hR H locs ls hP hD hS hl T hT X with ⟨v, st₀, t, T', L, h0, X', hL, e1, e2, ⟨⟨v', S', hv, hp, hP', hD', hR'⟩, hF⟩, hst⟩ | ⟨q, st₀, t, T', L, E, ce, h0, X', hL, e1, e2, ⟨⟨S', hp, hP', hD', hR'⟩, hF⟩, hce, hcv, hcl, hst⟩
  · cases hv
    obtain ⟨-, -, k3⟩ := vx_keep h0 e1 hS (fun _ _ h => h) (fun _ h => h) hL hF
    rw [← e1] at hP'
    rw [e6] at X'
    obtain ⟨t2, a1, b1⟩ := kk v S' hp hR' T'.heap (locs ++ L) ls hP' hD' k3 hl T' rfl X'
    exact ⟨t2, hst t2 a1, b1⟩
  · obtain ⟨-, -, k3⟩ := vx_keep h0 e1 hS (fun _ _ h => h) (fun _ h => h) hL hF
    rw [← e1] at hP' hce
    rw [e6] at X'
    obtain ⟨t2, a1, b1⟩ := kx E S' hp hR' T'.heap (locs ++ L) ls q ce hP' hD' k3 hl hce hcv hcl T' rfl X'
    exact ⟨t2, hst.trans a1, b1⟩
/-- what a call finds -/
theorem gd_pre {Y : zz_Y} {av : List Value} {H : Heap} {locs : List Loc} (hN : N0 ≤ s.heap.size) (hK : va_K G.1 vwCl (zz_T G) s) (hE : zz_E N0 Y s) (hR : zz_Rg S) (hP : va_P G.1 vwCl (zz_W G a S) H) (hD : va_D (zz_A N0) (zz_W G a S)) (hS : va_S (zz_A N0) s.heap H locs) (U : State) (hU : U.heap = H) (hW : s.WarmedH U.vm) : va_Pc av (zz_P N0 G Y a S) av.toArray U :=
  ⟨rfl, by rw [hU]; exact Nat.le_trans hN hS.1, by rw [hU]; exact hP, va_K.moved hW.alike hK, hD, hR, zz_E_warm hE hS hU hW⟩
/-- what every walk keeps: the facts of its start -/
abbrev zz_F (s : State) (N0 : Nat) (G : zz_G) (Y : zz_Y) : Prop := N0 ≤ s.heap.size ∧ va_K G.1 vwCl (zz_T G) s ∧ zz_E N0 Y s
theorem gd_callS {y : MethodName} {bytes : ByteArray} {maxL index n K : Nat} {ret : Option FieldType} {ws : List Cond} {rm : Room} {Y : zz_Y} {As rest : List Value} {post : Option Value → zz_S → Prop} {px : String → zz_S → Prop} (hC : zz_C p c cc nL s m own) (hF : zz_F s N0 G Y)
    (hM : zz_Rg S → Ct_ l y ws rm K As N0 G Y a S post px) (cw : CallB R s args own index y bytes maxL ret ws rm K (6 * K) n ∧ (Cond.static y).before args s = true) (hn : As.length = n) (hst : st = As.reverse ++ rest) (hW : (rest.map fun v => v.category).sum ≤ 8) (hdg : decode cc pc = .ok (.invokestatic index, 3)) (hf : k + K ≤ R.cells ∧ 6 * (k + K) ≤ R.slots)
    (kx : ∀ (E : String) (S' : zz_S), px E S' → Gx_ p l e R s m args below meth c Q N0 G a nL (k + K) (S') (pc) (lv) (rest) (E))
    (kk : ∀ (v : Option Value) (S' : zz_S), post v S' → Gd_ p l e R s m args below meth c Q N0 G a nL (k + K) (S') (pc + 3) (lv) (v.toList ++ rest)) : Gd_ p l e R s m args below meth c Q N0 G a nL (k) (S) (pc) (lv) (st) :=
  gd_call (rm := rm) (K := K) (Y := Y) (av := As) rfl (fun hR H locs ls hP hD hS hl => vx_runS (Ts := []) ⟨hC.1, hC.2.1, hC.2.2.1, hC.2.2.2, fun _ h => nomatch h⟩ (hM hR) cw ⟨zz_blind, gd_pre hF.1 hF.2.1 hF.2.2 hR hP hD hS⟩ rfl hn hl.1 hst (lv_room hW) hdg ⟨hf.1, by have h2 := hf.2; omega⟩) kx kk
theorem gd_callV {y : MethodName} {bytes : ByteArray} {C : String} {q : vw_C} {maxL index n K b ci N : Nat} {rf : Nat → Option Nat} {ret : Option FieldType} {ws : List Cond} {rm : Room} {Y : zz_Y} {As rest : List Value} {post : Option Value → zz_S → Prop} {px : String → zz_S → Prop} (hC : zz_C p c cc nL s m own) (hF : zz_F s N0 G Y)
    (hM : zz_Rg S → Ct_ l y ws rm K (.ref (a b) :: As) N0 G Y a S post px) (cw : CallW R s args own C index y bytes maxL ret ws rm K (6 * K) n) (hk : zz_k b = (0, ci, N, rf)) (hb : b < 100) (hc : vwCl[ci]? = some q) (hq : q.1 = C) (hn : As.length = n) (hst : st = As.reverse ++ .ref (a b) :: rest) (hW : (rest.map fun v => v.category).sum ≤ 8) (hdg : decode cc pc = .ok (.invokevirtual index, 3)) (hf : k + K ≤ R.cells ∧ 6 * (k + K) ≤ R.slots)
    (kx : ∀ (E : String) (S' : zz_S), px E S' → Gx_ p l e R s m args below meth c Q N0 G a nL (k + K) (S') (pc) (lv) (rest) (E))
    (kk : ∀ (v : Option Value) (S' : zz_S), post v S' → Gd_ p l e R s m args below meth c Q N0 G a nL (k + K) (S') (pc + 3) (lv) (v.toList ++ rest)) : Gd_ p l e R s m args below meth c Q N0 G a nL (k) (S) (pc) (lv) (st) :=
  gd_call (rm := rm) (K := K) (Y := Y) (av := .ref (a b) :: As) rfl (fun hR H locs ls hP hD hS hl => vx_runV (Ts := []) ⟨hC.1, hC.2.1, hC.2.2.1, hC.2.2.2, fun _ h => nomatch h⟩ (hM hR) cw ⟨zz_blind, by rw [← hq]; exact va_recv hF.2.1 hP hc (q0 := b) (ci := ci) (by rw [zz_W_get hb, hk, zz_cO]), gd_pre hF.1 hF.2.1 hF.2.2 hR hP hD hS⟩ rfl hn hl.1 hst (lv_room hW) hdg ⟨hf.1, by have h2 := hf.2; omega⟩) kx kk
theorem gd_callSX {y : MethodName} {bytes : ByteArray} {hh : List (Nat × Nat × Nat × Nat)} {maxL index n K : Nat} {ret : Option FieldType} {ws : List Cond} {rm : Room} {Y : zz_Y} {As rest : List Value} {post : Option Value → zz_S → Prop} {px : String → zz_S → Prop} (hC : zz_C p c cc nL s m own) (hF : zz_F s N0 G Y)
    (hM : zz_Rg S → Ct_ l y ws rm K As N0 G Y a S post px) (cw : vx_CSW R s args own index y bytes maxL ret hh ws rm K (6 * K) n) (hn : As.length = n) (hst : st = As.reverse ++ rest) (hW : (rest.map fun v => v.category).sum ≤ 8) (hdg : decode cc pc = .ok (.invokestatic index, 3)) (hf : k + K ≤ R.cells ∧ 6 * (k + K) ≤ R.slots)
    (kx : ∀ (E : String) (S' : zz_S), px E S' → Gx_ p l e R s m args below meth c Q N0 G a nL (k + K) (S') (pc) (lv) (rest) (E))
    (kk : ∀ (v : Option Value) (S' : zz_S), post v S' → Gd_ p l e R s m args below meth c Q N0 G a nL (k + K) (S') (pc + 3) (lv) (v.toList ++ rest)) : Gd_ p l e R s m args below meth c Q N0 G a nL (k) (S) (pc) (lv) (st) :=
  gd_call (rm := rm) (K := K) (Y := Y) (av := As) rfl (fun hR H locs ls hP hD hS hl => vx_runSX (Ts := []) ⟨hC.1, hC.2.1, hC.2.2.1, hC.2.2.2, fun _ h => nomatch h⟩ (hM hR) cw ⟨zz_blind, gd_pre hF.1 hF.2.1 hF.2.2 hR hP hD hS⟩ rfl hn hl.1 hst (lv_room hW) hdg ⟨hf.1, by have h2 := hf.2; omega⟩) kx kk

theorem gd_callSR {y : MethodName} {bytes : ByteArray} {maxL index n K : Nat} {ret : Option FieldType} {ws : List Cond} {rm : Room} {Y : zz_Y} {As rest : List Value} {e1 : Int} {S1 : zz_S} {F X1 X2 X3 : Prop} (hC : zz_C p c cc nL s m own) (hF : zz_F s N0 G Y)
    (hM : zz_Rg S → CtR l y ws rm K (As) N0 G Y a S e1 S1 F X1 X2 X3) (cw : CallB R s args own index y bytes maxL ret ws rm K (6 * K) n ∧ (Cond.static y).before args s = true) (hn : As.length = n) (hst : st = As.reverse ++ rest) (hW : (rest.map fun v => v.category).sum ≤ 8) (hdg : decode cc pc = .ok (.invokestatic index, 3)) (hf : k + K ≤ R.cells ∧ 6 * (k + K) ≤ R.slots) (kx : ∀ E : String, zz_xc E X1 X2 X3 → Gx_ p l e R s m args below meth c Q N0 G a nL (k + K) (S) (pc) (lv) (rest) (E))
    (kk : F → zz_R e1 → Gd_ p l e R s m args below meth c Q N0 G a nL (k + K) (S1) (pc + 3) (lv) (zz_v e1 :: rest)) : Gd_ p l e R s m args below meth c Q N0 G a nL (k) (S) (pc) (lv) (st) :=
  gd_callS hC hF hM cw hn hst hW hdg hf (fun E S' h => by obtain ⟨rfl, h⟩ := h; exact kx E h) (fun v S' h => by obtain ⟨r, hr, rfl, rfl, rfl, hp⟩ := h; exact kk hp hr)
theorem gd_callSN {y : MethodName} {bytes : ByteArray} {maxL index n K : Nat} {ret : Option FieldType} {ws : List Cond} {rm : Room} {Y : zz_Y} {As rest : List Value} {S1 : zz_S} {F X1 X2 X3 : Prop} (hC : zz_C p c cc nL s m own) (hF : zz_F s N0 G Y)
    (hM : zz_Rg S → CtN l y ws rm K (As) N0 G Y a S S1 F X1 X2 X3) (cw : CallB R s args own index y bytes maxL ret ws rm K (6 * K) n ∧ (Cond.static y).before args s = true) (hn : As.length = n) (hst : st = As.reverse ++ rest) (hW : (rest.map fun v => v.category).sum ≤ 8) (hdg : decode cc pc = .ok (.invokestatic index, 3)) (hf : k + K ≤ R.cells ∧ 6 * (k + K) ≤ R.slots) (kx : ∀ E : String, zz_xc E X1 X2 X3 → Gx_ p l e R s m args below meth c Q N0 G a nL (k + K) (S) (pc) (lv) (rest) (E))
    (kk : F → Gd_ p l e R s m args below meth c Q N0 G a nL (k + K) (S1) (pc + 3) (lv) (rest)) : Gd_ p l e R s m args below meth c Q N0 G a nL (k) (S) (pc) (lv) (st) :=
  gd_callS hC hF hM cw hn hst hW hdg hf (fun E S' h => by obtain ⟨rfl, h⟩ := h; exact kx E h) (fun v S' h => by obtain ⟨rfl, rfl, hp⟩ := h; exact kk hp)
theorem gd_callSW {y : MethodName} {bytes : ByteArray} {maxL index n K : Nat} {ret : Option FieldType} {ws : List Cond} {rm : Room} {Y : zz_Y} {As rest : List Value} {i : Nat} (hC : zz_C p c cc nL s m own) (hF : zz_F s N0 G Y)
    (hM : zz_Rg S → CtW l y ws rm K (As) N0 G Y a S i) (cw : CallB R s args own index y bytes maxL ret ws rm K (6 * K) n ∧ (Cond.static y).before args s = true) (hn : As.length = n) (hst : st = As.reverse ++ rest) (hW : (rest.map fun v => v.category).sum ≤ 8) (hdg : decode cc pc = .ok (.invokestatic index, 3)) (hf : k + K ≤ R.cells ∧ 6 * (k + K) ≤ R.slots)
    (kk : Gd_ p l e R s m args below meth c Q N0 G a nL (k + K) (S) (pc + 3) (lv) (.ref (Y.1 i) :: rest)) : Gd_ p l e R s m args below meth c Q N0 G a nL (k) (S) (pc) (lv) (st) :=
  gd_callS hC hF hM cw hn hst hW hdg hf (fun E S' h => zz_xn h.2) (fun v S' h => by obtain ⟨rfl, rfl⟩ := h; exact kk)
theorem gd_callVR {y : MethodName} {bytes : ByteArray} {C : String} {q : vw_C} {b ci N : Nat} {rf : Nat → Option Nat} {maxL index n K : Nat} {ret : Option FieldType} {ws : List Cond} {rm : Room} {Y : zz_Y} {As rest : List Value} {e1 : Int} {S1 : zz_S} {F X1 X2 X3 : Prop} (hC : zz_C p c cc nL s m own) (hF : zz_F s N0 G Y)
    (hM : zz_Rg S → CtR l y ws rm K (.ref (a b) :: As) N0 G Y a S e1 S1 F X1 X2 X3) (cw : CallW R s args own C index y bytes maxL ret ws rm K (6 * K) n) (hk : zz_k b = (0, ci, N, rf)) (hb : b < 100) (hc : vwCl[ci]? = some q) (hq : q.1 = C) (hn : As.length = n) (hst : st = As.reverse ++ .ref (a b) :: rest) (hW : (rest.map fun v => v.category).sum ≤ 8) (hdg : decode cc pc = .ok (.invokevirtual index, 3)) (hf : k + K ≤ R.cells ∧ 6 * (k + K) ≤ R.slots) (kx : ∀ E : String, zz_xc E X1 X2 X3 → Gx_ p l e R s m args below meth c Q N0 G a nL (k + K) (S) (pc) (lv) (rest) (E))
    (kk : F → zz_R e1 → Gd_ p l e R s m args below meth c Q N0 G a nL (k + K) (S1) (pc + 3) (lv) (zz_v e1 :: rest)) : Gd_ p l e R s m args below meth c Q N0 G a nL (k) (S) (pc) (lv) (st) :=
  gd_callV hC hF hM cw hk hb hc hq hn hst hW hdg hf (fun E S' h => by obtain ⟨rfl, h⟩ := h; exact kx E h) (fun v S' h => by obtain ⟨r, hr, rfl, rfl, rfl, hp⟩ := h; exact kk hp hr)
theorem gd_callVN {y : MethodName} {bytes : ByteArray} {C : String} {q : vw_C} {b ci N : Nat} {rf : Nat → Option Nat} {maxL index n K : Nat} {ret : Option FieldType} {ws : List Cond} {rm : Room} {Y : zz_Y} {As rest : List Value} {S1 : zz_S} {F X1 X2 X3 : Prop} (hC : zz_C p c cc nL s m own) (hF : zz_F s N0 G Y)
    (hM : zz_Rg S → CtN l y ws rm K (.ref (a b) :: As) N0 G Y a S S1 F X1 X2 X3) (cw : CallW R s args own C index y bytes maxL ret ws rm K (6 * K) n) (hk : zz_k b = (0, ci, N, rf)) (hb : b < 100) (hc : vwCl[ci]? = some q) (hq : q.1 = C) (hn : As.length = n) (hst : st = As.reverse ++ .ref (a b) :: rest) (hW : (rest.map fun v => v.category).sum ≤ 8) (hdg : decode cc pc = .ok (.invokevirtual index, 3)) (hf : k + K ≤ R.cells ∧ 6 * (k + K) ≤ R.slots) (kx : ∀ E : String, zz_xc E X1 X2 X3 → Gx_ p l e R s m args below meth c Q N0 G a nL (k + K) (S) (pc) (lv) (rest) (E))
    (kk : F → Gd_ p l e R s m args below meth c Q N0 G a nL (k + K) (S1) (pc + 3) (lv) (rest)) : Gd_ p l e R s m args below meth c Q N0 G a nL (k) (S) (pc) (lv) (st) :=
  gd_callV hC hF hM cw hk hb hc hq hn hst hW hdg hf (fun E S' h => by obtain ⟨rfl, h⟩ := h; exact kx E h) (fun v S' h => by obtain ⟨rfl, rfl, hp⟩ := h; exact kk hp)
theorem gd_callSXR {y : MethodName} {bytes : ByteArray} {hh : List (Nat × Nat × Nat × Nat)} {maxL index n K : Nat} {ret : Option FieldType} {ws : List Cond} {rm : Room} {Y : zz_Y} {As rest : List Value} {e1 : Int} {S1 : zz_S} {F X1 X2 X3 : Prop} (hC : zz_C p c cc nL s m own) (hF : zz_F s N0 G Y)
    (hM : zz_Rg S → CtR l y ws rm K (As) N0 G Y a S e1 S1 F X1 X2 X3) (cw : vx_CSW R s args own index y bytes maxL ret hh ws rm K (6 * K) n) (hn : As.length = n) (hst : st = As.reverse ++ rest) (hW : (rest.map fun v => v.category).sum ≤ 8) (hdg : decode cc pc = .ok (.invokestatic index, 3)) (hf : k + K ≤ R.cells ∧ 6 * (k + K) ≤ R.slots) (kx : ∀ E : String, zz_xc E X1 X2 X3 → Gx_ p l e R s m args below meth c Q N0 G a nL (k + K) (S) (pc) (lv) (rest) (E))
    (kk : F → zz_R e1 → Gd_ p l e R s m args below meth c Q N0 G a nL (k + K) (S1) (pc + 3) (lv) (zz_v e1 :: rest)) : Gd_ p l e R s m args below meth c Q N0 G a nL (k) (S) (pc) (lv) (st) :=
  gd_callSX hC hF hM cw hn hst hW hdg hf (fun E S' h => by obtain ⟨rfl, h⟩ := h; exact kx E h) (fun v S' h => by obtain ⟨r, hr, rfl, rfl, rfl, hp⟩ := h; exact kk hp hr)
theorem gd_callSXN {y : MethodName} {bytes : ByteArray} {hh : List (Nat × Nat × Nat × Nat)} {maxL index n K : Nat} {ret : Option FieldType} {ws : List Cond} {rm : Room} {Y : zz_Y} {As rest : List Value} {S1 : zz_S} {F X1 X2 X3 : Prop} (hC : zz_C p c cc nL s m own) (hF : zz_F s N0 G Y)
    (hM : zz_Rg S → CtN l y ws rm K (As) N0 G Y a S S1 F X1 X2 X3) (cw : vx_CSW R s args own index y bytes maxL ret hh ws rm K (6 * K) n) (hn : As.length = n) (hst : st = As.reverse ++ rest) (hW : (rest.map fun v => v.category).sum ≤ 8) (hdg : decode cc pc = .ok (.invokestatic index, 3)) (hf : k + K ≤ R.cells ∧ 6 * (k + K) ≤ R.slots) (kx : ∀ E : String, zz_xc E X1 X2 X3 → Gx_ p l e R s m args below meth c Q N0 G a nL (k + K) (S) (pc) (lv) (rest) (E))
    (kk : F → Gd_ p l e R s m args below meth c Q N0 G a nL (k + K) (S1) (pc + 3) (lv) (rest)) : Gd_ p l e R s m args below meth c Q N0 G a nL (k) (S) (pc) (lv) (st) :=
  gd_callSX hC hF hM cw hn hst hW hdg hf (fun E S' h => by obtain ⟨rfl, h⟩ := h; exact kx E h) (fun v S' h => by obtain ⟨rfl, rfl, hp⟩ := h; exact kk hp)
/-- an exception goes on to the caller -/
theorem gx_out {Y : zz_Y} {E : String} {mc : Nat} {Qc : Array Value → State → Outcome → State → Prop} {px : String → zz_S → Prop} (hout : ∀ x ∈ c.exceptionTable.toList, covers x pc = false) (hlocks : meth.locks = false) (hp : px E S) (hk : k ≤ mc) :
    Gx_ p l e R s m args below meth c (vx_MQ below Qc (zz_X N0 G a px) args s mc (6 * mc) (zz_A N0)) N0 G a nL k S pc lv st E := by
  intro hR H locs ls q9 ce hP hD hS hl hce hcv hcl
  exact vx_out hout hlocks hce hcv hcl (fun t ht hW => ⟨⟨S, hp, by rw [ht]; exact hP, hD, hR⟩, hS.F ht⟩) hS.2.2 hk (by omega)
/-- throw new E("text") -/
theorem gd_throwS {Y : zz_Y} {cls text : String} {names : List String} {ik is ic mc : Nat} {Qc : Array Value → State → Outcome → State → Prop} {px : String → zz_S → Prop} (hC : zz_C p c cc nL s m own) (hl9 : l.stackTraces = false) (hF : zz_F s N0 G Y)
    (hcls : Bundle.fit cls = true) (hnames : ∀ n ∈ names, Bundle.fit n = true)
    (hk : (Cond.classLink own ik cls).before args s = true) (hini : (Cond.initialized cls).before args s = true) (hstr : ∃ sa : Nat, vk_R own is text sa s) (hat : ∀ w ∈ vx_atS own ic cls names, w.before args s = true)
    (hgood : ∀ w ∈ Cond.classLink own ik cls :: Cond.initialized cls :: vx_atS own ic cls names, vx_ot w = true)
    (d0 : decode cc pc = .ok (.new ik, 3)) (d3 : decode cc (pc + 3) = .ok (.dup, 1)) (d4 : decode cc (pc + 4) = .ok (.ldc is, 2)) (d6 : decode cc (pc + 6) = .ok (.invokespecial ic, 3)) (d9 : decode cc (pc + 9) = .ok (.athrow, 1))
    (hout : ∀ x ∈ c.exceptionTable.toList, False)
    (hRf : names.length + 3 < R.frames) (hRl : (st.map fun v => v.category).sum + (13 * (names.length + 1) + 43) ≤ R.locals) (hRc : k + 1 ≤ R.cells) (hRs : 6 * k + 6 ≤ R.slots) (hlocks : meth.locks = false)
    (hp : px cls S) (hc : k + 1 ≤ mc) : Gd_ p l e R s m args below meth c (vx_MQ below Qc (zz_X N0 G a px) args s mc (6 * mc) (zz_A N0)) N0 G a nL k S pc lv st := by
  intro hR H locs ls hP hD hS hl
  obtain ⟨sa, hsa⟩ := hstr
  refine vx_throwS hC.1 hC.2.1 hl9 hC.2.2.2 hcls hnames hk hini hsa hat hgood hF.2.2.1 hF.2.2.2.1 hS (hl.1.trans hC.2.2.1.symm) d0 d3 d4 d6 d9 (fun x hx => (hout x hx).elim) hRf hRl hRc hRs hlocks (fun t hvm hsz hq => ?_) hS.2.2 hc (by omega)
  exact ⟨⟨S, hp, va_P.kept hP (fun k q hk => hq q.1 (hP k q hk).lt), hD, hR⟩, ⟨Nat.le_trans hS.1 hsz, fun q h1 h2 => by rw [hq q (Nat.lt_of_lt_of_le h1 hS.1)]; exact hS.2.1 q h1 h2⟩⟩
theorem gd_throw1 {Y : zz_Y} {text : String} {is mc : Nat} {Qc : Array Value → State → Outcome → State → Prop} {S0 : zz_S} {X1 X2 X3 : Prop} (hC : zz_C p c cc nL s m RX3) (hl9 : l.stackTraces = false) (hF : zz_F s N0 G Y)
    (hk : (Cond.classLink RX3 206 "java/lang/IndexOutOfBoundsException").before args s = true) (hini : (Cond.initialized "java/lang/IndexOutOfBoundsException").before args s = true) (htx : (is, text) ∈ zz_tx) (hat : ∀ w ∈ (vx_atS RX3 210 "java/lang/IndexOutOfBoundsException" ["java/lang/RuntimeException", "java/lang/Exception"]).filter goodWord, w.before args s = true)
    (d0 : decode cc pc = .ok (.new 206, 3)) (d3 : decode cc (pc + 3) = .ok (.dup, 1)) (d4 : decode cc (pc + 4) = .ok (.ldc is, 2)) (d6 : decode cc (pc + 6) = .ok (.invokespecial 210, 3)) (d9 : decode cc (pc + 9) = .ok (.athrow, 1))
    (hout : ∀ x ∈ c.exceptionTable.toList, False) (hRf : 5 < R.frames) (hRl : (st.map fun v => v.category).sum + 82 ≤ R.locals) (hRc : k + 1 ≤ R.cells) (hRs : 6 * k + 6 ≤ R.slots) (hlocks : meth.locks = false)
    (hS : S = S0) (hX : X1) (hc : k + 1 ≤ mc) : Gd_ p l e R s m args below meth c (vx_MQ below Qc (zz_X N0 G a (fun E S' => S' = S0 ∧ zz_xc E X1 X2 X3)) args s mc (6 * mc) (zz_A N0)) N0 G a nL k S pc lv st :=
  gd_throwS (Y := Y) (cls := "java/lang/IndexOutOfBoundsException") (names := ["java/lang/RuntimeException", "java/lang/Exception"]) hC hl9 hF (by decide +kernel) (by decide +kernel) hk hini (hF.2.2.2.2.1 (is, text) htx) (vx_hat hat (B := [.castable "java/lang/IndexOutOfBoundsException" "java/lang/IndexOutOfBoundsException", .declares (Bundle.initS "java/lang/RuntimeException"), .declares (Bundle.initS "java/lang/Exception"), .declares (Bundle.initS "java/lang/Throwable")]) (by decide +kernel) (vx_c (va_Nw.use (A := args) rfl (hF.2.2.2.2.2.2.2.1 _ (by decide))) (vx_c (va_Nw.use (A := args) rfl (hF.2.2.2.2.2.2.2.2.2 _ (by decide))) (vx_c (va_Nw.use (A := args) rfl (hF.2.2.2.2.2.2.2.2.2 _ (by decide))) (vx_c (va_Nw.use (A := args) rfl (hF.2.2.2.2.2.2.2.2.2 _ (by decide))) vx_n))))) (by decide +kernel) d0 d3 d4 d6 d9 hout hRf hRl hRc hRs hlocks ⟨hS, Or.inl ⟨rfl, hX⟩⟩ hc
theorem gd_throw2 {Y : zz_Y} {text : String} {is mc : Nat} {Qc : Array Value → State → Outcome → State → Prop} {S0 : zz_S} {X1 X2 X3 : Prop} (hC : zz_C p c cc nL s m RX3) (hl9 : l.stackTraces = false) (hF : zz_F s N0 G Y)
    (hk : (Cond.classLink RX3 41 "java/lang/IllegalArgumentException").before args s = true) (hini : (Cond.initialized "java/lang/IllegalArgumentException").before args s = true) (htx : (is, text) ∈ zz_tx) (hat : ∀ w ∈ (vx_atS RX3 45 "java/lang/IllegalArgumentException" ["java/lang/RuntimeException", "java/lang/Exception"]).filter goodWord, w.before args s = true)
    (d0 : decode cc pc = .ok (.new 41, 3)) (d3 : decode cc (pc + 3) = .ok (.dup, 1)) (d4 : decode cc (pc + 4) = .ok (.ldc is, 2)) (d6 : decode cc (pc + 6) = .ok (.invokespecial 45, 3)) (d9 : decode cc (pc + 9) = .ok (.athrow, 1))
    (hout : ∀ x ∈ c.exceptionTable.toList, False) (hRf : 5 < R.frames) (hRl : (st.map fun v => v.category).sum + 82 ≤ R.locals) (hRc : k + 1 ≤ R.cells) (hRs : 6 * k + 6 ≤ R.slots) (hlocks : meth.locks = false)
    (hS : S = S0) (hX : X2) (hc : k + 1 ≤ mc) : Gd_ p l e R s m args below meth c (vx_MQ below Qc (zz_X N0 G a (fun E S' => S' = S0 ∧ zz_xc E X1 X2 X3)) args s mc (6 * mc) (zz_A N0)) N0 G a nL k S pc lv st :=
  gd_throwS (Y := Y) (cls := "java/lang/IllegalArgumentException") (names := ["java/lang/RuntimeException", "java/lang/Exception"]) hC hl9 hF (by decide +kernel) (by decide +kernel) hk hini (hF.2.2.2.2.1 (is, text) htx) (vx_hat hat (B := [.castable "java/lang/IllegalArgumentException" "java/lang/IllegalArgumentException", .declares (Bundle.initS "java/lang/RuntimeException"), .declares (Bundle.initS "java/lang/Exception"), .declares (Bundle.initS "java/lang/Throwable")]) (by decide +kernel) (vx_c (va_Nw.use (A := args) rfl (hF.2.2.2.2.2.2.2.1 _ (by decide))) (vx_c (va_Nw.use (A := args) rfl (hF.2.2.2.2.2.2.2.2.2 _ (by decide))) (vx_c (va_Nw.use (A := args) rfl (hF.2.2.2.2.2.2.2.2.2 _ (by decide))) (vx_c (va_Nw.use (A := args) rfl (hF.2.2.2.2.2.2.2.2.2 _ (by decide))) vx_n))))) (by decide +kernel) d0 d3 d4 d6 d9 hout hRf hRl hRc hRs hlocks ⟨hS, Or.inr (Or.inl ⟨rfl, hX⟩)⟩ hc
theorem gd_throw3 {Y : zz_Y} {text : String} {is mc : Nat} {Qc : Array Value → State → Outcome → State → Prop} {S0 : zz_S} {X1 X2 X3 : Prop} (hC : zz_C p c cc nL s m RX3) (hl9 : l.stackTraces = false) (hF : zz_F s N0 G Y)
    (hk : (Cond.classLink RX3 52 "java/lang/IllegalStateException").before args s = true) (hini : (Cond.initialized "java/lang/IllegalStateException").before args s = true) (htx : (is, text) ∈ zz_tx) (hat : ∀ w ∈ (vx_atS RX3 56 "java/lang/IllegalStateException" ["java/lang/RuntimeException", "java/lang/Exception"]).filter goodWord, w.before args s = true)
    (d0 : decode cc pc = .ok (.new 52, 3)) (d3 : decode cc (pc + 3) = .ok (.dup, 1)) (d4 : decode cc (pc + 4) = .ok (.ldc is, 2)) (d6 : decode cc (pc + 6) = .ok (.invokespecial 56, 3)) (d9 : decode cc (pc + 9) = .ok (.athrow, 1))
    (hout : ∀ x ∈ c.exceptionTable.toList, False) (hRf : 5 < R.frames) (hRl : (st.map fun v => v.category).sum + 82 ≤ R.locals) (hRc : k + 1 ≤ R.cells) (hRs : 6 * k + 6 ≤ R.slots) (hlocks : meth.locks = false)
    (hS : S = S0) (hX : X3) (hc : k + 1 ≤ mc) : Gd_ p l e R s m args below meth c (vx_MQ below Qc (zz_X N0 G a (fun E S' => S' = S0 ∧ zz_xc E X1 X2 X3)) args s mc (6 * mc) (zz_A N0)) N0 G a nL k S pc lv st :=
  gd_throwS (Y := Y) (cls := "java/lang/IllegalStateException") (names := ["java/lang/RuntimeException", "java/lang/Exception"]) hC hl9 hF (by decide +kernel) (by decide +kernel) hk hini (hF.2.2.2.2.1 (is, text) htx) (vx_hat hat (B := [.castable "java/lang/IllegalStateException" "java/lang/IllegalStateException", .declares (Bundle.initS "java/lang/RuntimeException"), .declares (Bundle.initS "java/lang/Exception"), .declares (Bundle.initS "java/lang/Throwable")]) (by decide +kernel) (vx_c (va_Nw.use (A := args) rfl (hF.2.2.2.2.2.2.2.1 _ (by decide))) (vx_c (va_Nw.use (A := args) rfl (hF.2.2.2.2.2.2.2.2.2 _ (by decide))) (vx_c (va_Nw.use (A := args) rfl (hF.2.2.2.2.2.2.2.2.2 _ (by decide))) (vx_c (va_Nw.use (A := args) rfl (hF.2.2.2.2.2.2.2.2.2 _ (by decide))) vx_n))))) (by decide +kernel) d0 d3 d4 d6 d9 hout hRf hRl hRc hRs hlocks ⟨hS, Or.inr (Or.inr ⟨rfl, hX⟩)⟩ hc
theorem gd_ireturn {mc : Nat} {z : Int} {post : Option Value → zz_S → Prop} {px : String → zz_S → Prop} {ty : FieldType} (hC : zz_C p c cc nL s m own) (hr : meth.sig.returnType = some ty) (hn : narrow ty (zz_v z) = zz_v z) (hlocks : meth.locks = false) (hdg : decode cc pc = .ok (.ireturn, 1)) (hk : k ≤ mc) (hp : post (some (zz_v z)) S) : Gd_ p l e R s m args below meth c (vx_MQ below (zz_Q N0 G a post) (zz_X N0 G a px) args s mc (6 * mc) (zz_A N0)) N0 G a nL k S pc lv [zz_v z] := by
  intro hR H locs ls hP hD hS hl
  refine vx_ret (W.widen hk (show 6 * k ≤ 6 * mc by omega) ?_)
  exact W.zret (v := Int32.ofInt z) hC.1 hC.2.1 hr hn (fun t ht hW => ⟨⟨_, S, rfl, hp, by rw [ht]; exact hP, hD, hR⟩, hS.F ht⟩) hS.2.2 hdg hlocks
theorem gd_return {mc : Nat} {post : Option Value → zz_S → Prop} {px : String → zz_S → Prop} (hC : zz_C p c cc nL s m own) (hr : meth.sig.returnType = none) (hlocks : meth.locks = false) (hdg : decode cc pc = .ok (.return_, 1)) (hk : k ≤ mc) (hp : post none S) : Gd_ p l e R s m args below meth c (vx_MQ below (zz_Q N0 G a post) (zz_X N0 G a px) args s mc (6 * mc) (zz_A N0)) N0 G a nL k S pc lv [] := by
  intro hR H locs ls hP hD hS hl
  refine vx_ret (W.widen hk (show 6 * k ≤ 6 * mc by omega) ?_)
  exact W.vret hC.1 hC.2.1 hr (fun t ht hW => ⟨⟨_, S, rfl, hp, by rw [ht]; exact hP, hD, hR⟩, hS.F ht⟩) hS.2.2 hdg hlocks
theorem gd_areturn {mc x : Nat} {post : Option Value → zz_S → Prop} {px : String → zz_S → Prop} {C : String} (hC : zz_C p c cc nL s m own) (hr : meth.sig.returnType = some (.object C)) (hlocks : meth.locks = false) (hdg : decode cc pc = .ok (.areturn, 1)) (hk : k ≤ mc) (hp : post (some (.ref x)) S) : Gd_ p l e R s m args below meth c (vx_MQ below (zz_Q N0 G a post) (zz_X N0 G a px) args s mc (6 * mc) (zz_A N0)) N0 G a nL k S pc lv [.ref x] := by
  intro hR H locs ls hP hD hS hl
  refine vx_ret (W.widen hk (show 6 * k ≤ 6 * mc by omega) ?_)
  exact W.aret hC.1 hC.2.1 hr (Or.inl ⟨C, rfl⟩) (Or.inr ⟨x, rfl⟩) (fun t ht hW => ⟨⟨_, S, rfl, hp, by rw [ht]; exact hP, hD, hR⟩, hS.F ht⟩) hS.2.2 hdg hlocks
theorem gd_lveq {lv' : List (Nat × Value)} (h : lv = lv') (kk : Gd_ p l e R s m args below meth c Q N0 G a nL (k) (S) (pc) (lv') (st)) : Gd_ p l e R s m args below meth c Q N0 G a nL (k) (S) (pc) (lv) (st) := h ▸ kk
theorem gd_topl {x y : Int} (h : x = y) (kk : Gd_ p l e R s m args below meth c Q N0 G a nL (k) (S) (pc) (lv) (zz_l y :: st)) : Gd_ p l e R s m args below meth c Q N0 G a nL (k) (S) (pc) (lv) (zz_l x :: st) := h ▸ kk
theorem gd_sk {k' : Nat} {S' : zz_S} (hk : k = k') (hS : S = S') (kk : Gd_ p l e R s m args below meth c Q N0 G a nL (k') (S') (pc) (lv) (st)) : Gd_ p l e R s m args below meth c Q N0 G a nL (k) (S) (pc) (lv) (st) := by
  subst hk; subst hS; exact kk
theorem gd_lcmp (hC : zz_C p c cc nL s m own) {x y : Int} (hx : zz_R x) (hy : zz_R y) (hdg : decode cc pc = .ok (.lcmp, 1)) (kk : Gd_ p l e R s m args below meth c Q N0 G a nL (k) (S) (pc + 1) (lv) (zz_v (zz_cmp3 x y) :: st)) : Gd_ p l e R s m args below meth c Q N0 G a nL (k) (S) (pc) (lv) (zz_l y :: zz_l x :: st) := fun hR H locs ls hP hD hS hl => by
  refine W.lcmp hC.1 hC.2.1 hdg ?_
  have h9 := zz_cmp3_eq hx hy
  first
    | (rw [h9]; exact kk hR H locs ls hP hD hS hl)
    | (have h8 := kk hR H locs ls hP hD hS hl; rw [zz_v, ← h9] at h8; exact h8)
theorem gd_ishl1 (hC : zz_C p c cc nL s m own) {y : Int} (hy : 0 ≤ y ∧ y < 16) (hdg : decode cc pc = .ok (.ishl, 1)) (kk : Gd_ p l e R s m args below meth c Q N0 G a nL (k) (S) (pc + 1) (lv) (zz_v ((2 ^ y.toNat : Nat) : Int) :: st)) : Gd_ p l e R s m args below meth c Q N0 G a nL (k) (S) (pc) (lv) (zz_v y :: zz_v 1 :: st) := fun hR H locs ls hP hD hS hl => lv_ishl hC.1 hC.2.1 hdg (by
  rw [zz_shl hy]
  exact kk hR H locs ls hP hD hS hl)
theorem gd_ishr (hC : zz_C p c cc nL s m own) {x y : Int} (hx : 0 ≤ x ∧ x < 2147483648) (hy : 0 ≤ y ∧ y < 16) (hdg : decode cc pc = .ok (.ishr, 1)) (kk : Gd_ p l e R s m args below meth c Q N0 G a nL (k) (S) (pc + 1) (lv) (zz_v ((x.toNat / 2 ^ y.toNat : Nat) : Int) :: st)) : Gd_ p l e R s m args below meth c Q N0 G a nL (k) (S) (pc) (lv) (zz_v y :: zz_v x :: st) := fun hR H locs ls hP hD hS hl => lv_ishr hC.1 hC.2.1 hdg (by
  rw [zz_shr hx hy]
  exact kk hR H locs ls hP hD hS hl)
theorem gd_iand1 (hC : zz_C p c cc nL s m own) {n : Nat} (hdg : decode cc pc = .ok (.iand, 1)) (kk : Gd_ p l e R s m args below meth c Q N0 G a nL (k) (S) (pc + 1) (lv) (zz_v ((n % 2 : Nat) : Int) :: st)) : Gd_ p l e R s m args below meth c Q N0 G a nL (k) (S) (pc) (lv) (zz_v 1 :: zz_v ((n : Nat) : Int) :: st) := fun hR H locs ls hP hD hS hl => lv_iand hC.1 hC.2.1 hdg (by
  rw [zz_and1]
  exact kk hR H locs ls hP hD hS hl)
theorem gd_ior (hC : zz_C p c cc nL s m own) {x y : Int} (hx : 0 ≤ x ∧ x < 65536) (hy : 0 ≤ y ∧ y < 65536) (hdg : decode cc pc = .ok (.ior, 1)) (kk : Gd_ p l e R s m args below meth c Q N0 G a nL (k) (S) (pc + 1) (lv) (zz_v ((x.toNat ||| y.toNat : Nat) : Int) :: st)) : Gd_ p l e R s m args below meth c Q N0 G a nL (k) (S) (pc) (lv) (zz_v y :: zz_v x :: st) := fun hR H locs ls hP hD hS hl => lv_ior hC.1 hC.2.1 hdg (by
  rw [zz_or hx hy]
  exact kk hR H locs ls hP hD hS hl)
theorem gd_loop {σ : Type} (μ : σ → Nat) (I : σ → Prop) (Sf : σ → zz_S) (lf : σ → List (Nat × Value)) (x0 : σ) (h0 : I x0) (hS : S = Sf x0) (hl : lv = lf x0) (step : ∀ x : σ, I x → (∀ y : σ, I y → μ y < μ x → Gd_ p l e R s m args below meth c Q N0 G a nL (k) (Sf y) (pc) (lf y) (st)) → Gd_ p l e R s m args below meth c Q N0 G a nL (k) (Sf x) (pc) (lf x) (st)) : Gd_ p l e R s m args below meth c Q N0 G a nL (k) (S) (pc) (lv) (st) := by
  subst hS; subst hl
  have key : ∀ (n : Nat) (x : σ), μ x < n → I x → Gd_ p l e R s m args below meth c Q N0 G a nL (k) (Sf x) (pc) (lf x) (st) := by
    intro n
    induction n with
    | zero => intro x h; omega
    | succ n ih => intro x h hI; exact step x hI (fun y hy hm => ih y (by omega) hy)
  exact key (μ x0 + 1) x0 (by omega) h0
theorem gd_max (hC : zz_C p c cc nL s m own) {index : Nat} {x y : Int} (hlink : (Cond.methodLink own index Lib.Math.max.name).before args s = true) (hstat : (Cond.static Lib.Math.max.name).before args s = true) (hini : (Cond.initialized "java/lang/Math").before args s = true) (hcode : (Cond.code Lib.Math.max.name Lib.Math.max.code 2 (some .int)).before args s = true)
    (hfr : 1 ≤ R.frames) (hlo : (st.map fun v => v.category).sum + 13 ≤ R.locals) (hc : k ≤ R.cells) (hs : 6 * k ≤ R.slots) (hx : zz_R x) (hy : zz_R y) (hdg : decode cc pc = .ok (.invokestatic index, 3)) (kk : Gd_ p l e R s m args below meth c Q N0 G a nL (k) (S) (pc + 3) (lv) (zz_v (if x < y then y else x) :: st)) : Gd_ p l e R s m args below meth c Q N0 G a nL (k) (S) (pc) (lv) (zz_v y :: zz_v x :: st) := fun hR H locs ls hP hD hS hl => by
  refine va_mmax hC.1 hC.2.1 (hC.2.2.1.trans hl.1.symm) hC.2.2.2 hlink hstat hini hcode hfr hlo hc hs hdg ?_
  have h9 : (if Int32.ofInt x < Int32.ofInt y then Int32.ofInt y else Int32.ofInt x) = Int32.ofInt (if x < y then y else x) := by
    by_cases h : x < y
    · rw [if_pos h, if_pos ((zz_lt hx hy).mpr h)]
    · rw [if_neg h, if_neg (fun z => h ((zz_lt hx hy).mp z))]
  rw [h9]
  exact kk hR H locs ls hP hD hS hl
end ZH
/-- a contract out of the walk of its body -/
theorem Ct_.of {l : Launch} {y : MethodName} {ws ws' : List Cond} {rm : Room} {K : Nat} {av : List Value} {N0 : Nat} {G : zz_G} {Y : zz_Y} {a : Nat → Nat} {S : zz_S} {post : Option Value → zz_S → Prop} {px : String → zz_S → Prop} {cc : ByteArray} {maxL : Nat} {ret : Option FieldType}
    (hy : plainName y.cls = true) (hw : ws = Cond.code y cc maxL ret :: ws') (hlen : (lg_sl av).length ≤ maxL)
    (body : ∀ (p : Program) (e : Env) (s : State) (m : MethodId) (args : Array Value) (below : List Frame) (meth : Method) (c : Code), zz_C p c cc maxL s m y.cls → (∀ w ∈ ws, w.before args s = true) → meth.sig.returnType = ret → meth.locks = false → (∀ x ∈ c.exceptionTable.toList, False) → zz_F s N0 G Y →
      Gd_ p l e rm s m args below meth c (vx_MQ below (zz_Q N0 G a post) (zz_X N0 G a px) args s K (6 * K) (zz_A N0)) N0 G a maxL 0 S 0 (lv_args 0 av) []) : Ct_ l y ws rm K av N0 G Y a S post px := by
  refine vx_ofW hy hw ?_
  intro p e s m args below meth c s₁ B hml ht hv
  obtain ⟨rfl, h1, h2, h3, h4, h5, h6⟩ := hv
  have hl := lv_entry av (n := maxL) hlen
  have hg := body p e s m av.toArray below meth c ⟨B.exec, B.bytes, hml, findClass_of_methodNamed B.named⟩ (atoms_spec (ws := ws) B.pre) B.returns B.notSynchronized ht ⟨h1, h3, h6⟩ h5 s.heap [] _ h2 h4 va_S.rf hl
  rw [lg_entry_eq]
  exact hg
end
section
/-! what the class's methods compute, as plain functions of the world -/
/-- the newest row that fits -/
def zz_vo (th da va : Nat → Int) (t d z : Int) : Nat → Int
  | 0 => z
  | n + 1 => if th n = t ∧ da n ≤ d then va n else zz_vo th da va t d z n
theorem zz_vo_s {th da va : Nat → Int} {t d z : Int} {m : Nat} (h : 0 < m) : zz_vo th da va t d z m = if th (m - 1) = t ∧ da (m - 1) ≤ d then va (m - 1) else zz_vo th da va t d z (m - 1) := by
  obtain ⟨q, rfl⟩ : ∃ q, m = q + 1 := ⟨m - 1, by omega⟩
  rw [zz_vo, Nat.add_sub_cancel]
def zz_oo (th da va : Nat → Int) (c : Nat) (d : Int) : Nat → Int → Int
  | 0, o => o
  | n + 1, o => if zz_vo th da va o d (-1) c = -1 then o else zz_oo th da va c d n (zz_vo th da va o d (-1) c)
def zz_cb (S : zz_S) : Nat → Int → Int
  | 0, o => o
  | n + 1, o => if S 2 o.toNat = -1 then o else zz_cb S n (S 2 o.toNat)
theorem zz_cb_stop {S : zz_S} {o : Int} (h : S 2 o.toNat = -1) : ∀ {n : Nat}, zz_cb S n o = o
  | 0 => rfl
  | n + 1 => by rw [zz_cb, if_pos h]
def zz_cj (S : zz_S) (x : Int) : Nat → Nat → Int
  | 0, _ => -1
  | n + 1, j => if S (61 + j) 0 = x ∧ ¬ S (61 + j) 1 = 2 then (j : Int) else zz_cj S x n (j + 1)
/-- 1: the acts i and j are likes -/
def zz_li (S : zz_S) (i j : Nat) : Int := if ¬ (i : Int) = (j : Int) ∧ S (13 + i) 1 = S (13 + j) 1 ∧ S (13 + i) 0 = S (13 + j) 0 then 1 else 0
theorem zz_li_01 (S : zz_S) (i j : Nat) : zz_li S i j = 0 ∨ zz_li S i j = 1 := by unfold zz_li; split <;> omega
def zz_ln (S : zz_S) (i : Nat) : Nat → Int
  | 0 => 0
  | j + 1 => zz_ln S i j + zz_li S i j
def zz_ls (S : zz_S) (i : Nat) : Nat → Int
  | 0 => 0
  | j + 1 => zz_ls S i j + if zz_li S i j = 0 then 0 else S (13 + j) 3
theorem zz_ln_rng (S : zz_S) (i : Nat) : ∀ j : Nat, 0 ≤ zz_ln S i j ∧ zz_ln S i j ≤ (j : Int)
  | 0 => by simp [zz_ln]
  | j + 1 => by
    have h := zz_ln_rng S i j
    have h2 := zz_li_01 S i j
    rw [zz_ln]
    omega
theorem zz_ls_rng (S : zz_S) (i N : Nat) (hm : ∀ j : Nat, j < N → 0 ≤ S (13 + j) 3 ∧ S (13 + j) 3 ≤ 100) : ∀ j : Nat, j ≤ N → 0 ≤ zz_ls S i j ∧ zz_ls S i j ≤ 100 * (j : Int)
  | 0, _ => by simp [zz_ls]
  | j + 1, h => by
    have h1 := zz_ls_rng S i N hm j (by omega)
    have h2 := hm j (by omega)
    rw [zz_ls]
    split <;> omega
/-- 1: the act i fails the rule -/
def zz_fr (S : zz_S) (i : Nat) : Int := if zz_vo (S 8) (S 9) (S 10) (S (13 + i) 1) (S (13 + i) 2) 30 (S 7 3).toNat < S (13 + i) 3 then 1 else 0
/-- 1: it is unequal -/
def zz_un (S : zz_S) (i : Nat) : Int := if zz_ln S i (S 0 7).toNat < 2 then 0 else if 2 * (zz_ls S i (S 0 7).toNat / zz_ln S i (S 0 7).toNat) < S (13 + i) 3 then 1 else 0
def zz_ft (S : zz_S) (i : Nat) : Int := (if zz_fr S i = 0 then 0 else 1) + (if zz_un S i = 0 then 0 else 2)
theorem zz_ft_rng (S : zz_S) (i : Nat) : 0 ≤ zz_ft S i ∧ zz_ft S i ≤ 3 := by unfold zz_ft; split <;> split <;> omega
/-- what bars a complaint -/
def zz_ba (S : zz_S) (i p : Nat) (now : Int) : Int := if S (37 + i) p = -1 ∨ now - S (37 + i) p < 10 then 1 else if ¬ S (13 + i) 5 = 0 then 2 else if 365 < now - S (13 + i) 2 ∧ S (13 + i) 6 = 0 then 3 else 0
/-- a range of a whole row -/
def zz_rr (S : zz_S) (p n : Nat) (lo hi : Int) : Prop := ∀ j : Nat, j < n → lo ≤ S p j ∧ S p j ≤ hi
def zz_rc (S : zz_S) (p n f : Nat) (lo hi : Int) : Prop := ∀ j : Nat, j < n → lo ≤ S (p + j) f ∧ S (p + j) f ≤ hi
theorem zz_vo_rng {th da va : Nat → Int} {lo hi t d z : Int} (hz : lo ≤ z ∧ z ≤ hi) : ∀ {n : Nat}, (∀ j, j < n → lo ≤ va j ∧ va j ≤ hi) → lo ≤ zz_vo th da va t d z n ∧ zz_vo th da va t d z n ≤ hi
  | 0, _ => hz
  | n + 1, h => by
    have h1 := zz_vo_rng (th := th) (da := da) (va := va) (t := t) (d := d) hz (n := n) (fun j hj => h j (by omega))
    have h2 := h n (by omega)
    rw [zz_vo]
    split <;> assumption
theorem zz_oo_rng {th da va : Nat → Int} {lo hi d : Int} {c : Nat} (h : ∀ j, j < c → lo ≤ va j ∧ va j ≤ hi) (hl : lo ≤ -1) (hh : -1 ≤ hi) : ∀ (n : Nat) (o : Int), lo ≤ o ∧ o ≤ hi → lo ≤ zz_oo th da va c d n o ∧ zz_oo th da va c d n o ≤ hi
  | 0, o, ho => ho
  | n + 1, o, ho => by
    rw [zz_oo]
    split
    · exact ho
    · exact zz_oo_rng h hl hh n _ (zz_vo_rng ⟨hl, hh⟩ h)
theorem zz_cb_rng {S : zz_S} (h : zz_rr S 2 10 (-1) 9) : ∀ (n : Nat) (o : Int), 0 ≤ o ∧ o ≤ 9 → 0 ≤ zz_cb S n o ∧ zz_cb S n o ≤ 9
  | 0, o, ho => ho
  | n + 1, o, ho => by
    have h1 := h o.toNat (by omega)
    rw [zz_cb]
    split
    · exact ho
    · exact zz_cb_rng h n _ (by omega)
theorem zz_cj_rng {S : zz_S} {x : Int} : ∀ (n j : Nat), -1 ≤ zz_cj S x n j ∧ zz_cj S x n j < (n + j : Int)
  | 0, j => by rw [zz_cj]; omega
  | n + 1, j => by
    have h := zz_cj_rng (S := S) (x := x) n (j + 1)
    rw [zz_cj]
    split <;> omega
/-- days go by for a complaint -/
def zz_ld (S : zz_S) (j : Nat) (x : Int) : zz_S := if ¬ S (61 + j) 1 = 0 ∨ S (61 + j) 4 = 1 then S else if (if 0 < S (61 + j) 2 - x then S (61 + j) 2 - x else 0) = 0 then zz_u (zz_u S (61 + j) 2 (if 0 < S (61 + j) 2 - x then S (61 + j) 2 - x else 0)) (61 + j) 1 2 else zz_u S (61 + j) 2 (if 0 < S (61 + j) 2 - x then S (61 + j) 2 - x else 0)
theorem zz_p2 {y : Int} (h : 0 ≤ y ∧ y < 16) : 0 ≤ ((2 ^ y.toNat : Nat) : Int) ∧ ((2 ^ y.toNat : Nat) : Int) < 65536 := by
  have h1 : (2 : Nat) ^ y.toNat < 2 ^ 16 := Nat.pow_lt_pow_right (by omega) (by omega)
  exact ⟨Int.natCast_nonneg _, Int.ofNat_lt.mpr h1⟩
/-- what holds of the class's numbers -/
def zz_IC (S : zz_S) : Prop := (0 ≤ S 0 1 ∧ S 0 1 ≤ 7) ∧ (0 ≤ S 0 3 ∧ S 0 3 ≤ 10) ∧ (0 ≤ S 0 7 ∧ S 0 7 ≤ 24) ∧ (0 ≤ S 0 9 ∧ S 0 9 ≤ 16) ∧ (0 ≤ S 0 10 ∧ S 0 10 ≤ 5000) ∧ (0 ≤ S 3 3 ∧ S 3 3 ≤ 512) ∧ (0 ≤ S 7 3 ∧ S 7 3 ≤ 512) ∧ zz_rr S 2 10 (-1) 9 ∧ zz_rr S 6 512 (-1) 9 ∧ zz_rc S 13 24 0 0 9 ∧ zz_rc S 13 24 1 0 3 ∧ zz_rc S 13 24 2 0 5000 ∧ zz_rc S 13 24 3 0 100 ∧ zz_rc S 13 24 4 0 1000 ∧ zz_rc S 13 24 5 0 1 ∧ zz_rc S 13 24 6 0 1 ∧ zz_rc S 13 24 7 (-1) 1000 ∧ (∀ i : Nat, i < 24 → zz_rr S (37 + i) 10 (-1) 5000) ∧ zz_rc S 61 16 0 0 23 ∧ zz_rc S 61 16 1 0 2 ∧ zz_rc S 61 16 2 0 60 ∧ zz_rc S 61 16 3 0 1023 ∧ zz_rc S 61 16 4 0 2 ∧ zz_rc S 61 16 5 0 5000 ∧ zz_rc S 61 16 6 0 1 ∧ zz_rc S 61 16 7 (-1) 3 ∧ (∀ j : Nat, j < 16 → S (61 + j) 4 = 1 → S (61 + j) 5 ≤ S 0 10) ∧ zz_rr S 1 7 0 65535
/-- worlds that differ in remedies alone -/
def zz_sr (S T : zz_S) : Prop := ∀ k f : Nat, ¬ (13 ≤ k ∧ k < 37 ∧ f = 7) → T k f = S k f
theorem zz_sr_row {S T : zz_S} (h : zz_sr S T) {k : Nat} (hk : k < 13) : T k = S k := funext fun f => h k f (by omega)
theorem zz_li_sr {S T : zz_S} (h : zz_sr S T) (i j : Nat) : zz_li T i j = zz_li S i j := by
  unfold zz_li
  rw [h (13 + i) 1 (by omega), h (13 + j) 1 (by omega), h (13 + i) 0 (by omega), h (13 + j) 0 (by omega)]
theorem zz_ln_sr {S T : zz_S} (h : zz_sr S T) (i : Nat) : ∀ j : Nat, zz_ln T i j = zz_ln S i j
  | 0 => rfl
  | j + 1 => by rw [zz_ln, zz_ln, zz_ln_sr h i j, zz_li_sr h]
theorem zz_ls_sr {S T : zz_S} (h : zz_sr S T) (i : Nat) : ∀ j : Nat, zz_ls T i j = zz_ls S i j
  | 0 => rfl
  | j + 1 => by rw [zz_ls, zz_ls, zz_ls_sr h i j, zz_li_sr h, h (13 + j) 3 (by omega)]
theorem zz_ft_sr {S T : zz_S} (h : zz_sr S T) (i : Nat) : zz_ft T i = zz_ft S i := by
  unfold zz_ft zz_fr zz_un
  rw [zz_sr_row h (show 8 < 13 by omega), zz_sr_row h (show 9 < 13 by omega), zz_sr_row h (show 10 < 13 by omega), zz_sr_row h (show 7 < 13 by omega), zz_sr_row h (show 0 < 13 by omega), zz_ln_sr h, zz_ls_sr h, h (13 + i) 1 (by omega), h (13 + i) 2 (by omega), h (13 + i) 3 (by omega)]
/-- 1: a remedy of the complaint c is for the act i -/
def zz_rb (S : zz_S) (c i : Nat) : Int := if (i : Int) = S (61 + c) 0 then 1 else if zz_li S (S (61 + c) 0).toNat i = 0 then 0 else if zz_ft S i = 0 then 0 else 1
def zz_rS (S : zz_S) (c : Nat) (x : Int) : Nat → zz_S
  | 0 => S
  | i + 1 => if zz_rb S c i = 0 then zz_rS S c x i else zz_u (zz_rS S c x i) (13 + i) 7 ((S (13 + i) 4 * x) / 100)
def zz_rn (S : zz_S) (c : Nat) : Nat → Int
  | 0 => 0
  | i + 1 => zz_rn S c i + zz_rb S c i
theorem zz_rb_01 (S : zz_S) (c i : Nat) : zz_rb S c i = 0 ∨ zz_rb S c i = 1 := by unfold zz_rb; omega
theorem zz_rn_rng (S : zz_S) (c : Nat) : ∀ i : Nat, 0 ≤ zz_rn S c i ∧ zz_rn S c i ≤ (i : Int)
  | 0 => by simp [zz_rn]
  | i + 1 => by
    have h := zz_rn_rng S c i
    have h2 := zz_rb_01 S c i
    rw [zz_rn]
    omega
theorem zz_rS_sr (S : zz_S) (c : Nat) (x : Int) : ∀ i : Nat, i ≤ 24 → zz_sr S (zz_rS S c x i)
  | 0, _ => fun _ _ _ => rfl
  | i + 1, hi => by
    intro k f h
    rw [zz_rS]
    split
    · exact zz_rS_sr S c x i (by omega) k f h
    · rw [zz_u_ne _ _ (by omega)]
      exact zz_rS_sr S c x i (by omega) k f h
/-- days go by for the first j complaints -/
def zz_pS (S : zz_S) (x : Int) : Nat → zz_S
  | 0 => S
  | j + 1 => zz_ld (zz_pS S x j) j x
theorem zz_ld_off {S : zz_S} {j k f : Nat} {x : Int} (h : k ≠ 61 + j) : zz_ld S j x k f = S k f := by
  unfold zz_ld
  by_cases h1 : ¬ S (61 + j) 1 = 0 ∨ S (61 + j) 4 = 1
  · rw [if_pos h1]
  · rw [if_neg h1]
    generalize (if 0 < S (61 + j) 2 - x then S (61 + j) 2 - x else 0) = d
    by_cases h2 : d = 0
    · rw [if_pos h2, zz_u_ne _ _ (by omega), zz_u_ne _ _ (by omega)]
    · rw [if_neg h2, zz_u_ne _ _ (by omega)]
theorem zz_pS_off (S : zz_S) (x : Int) : ∀ (j k f : Nat), (k < 61 ∨ 61 + j ≤ k) → zz_pS S x j k f = S k f
  | 0, _, _, _ => rfl
  | j + 1, k, f, h => by
    rw [zz_pS, zz_ld_off (by omega)]
    exact zz_pS_off S x j k f (by omega)
def zz_gn (S : zz_S) (q lim : Int) : Nat → Int
  | 0 => 0
  | i + 1 => zz_gn S q lim i + if S (13 + i) 1 = q then (if lim < S (13 + i) 3 then 1 else 0) - zz_fr S i else 0
theorem zz_fr_01 (S : zz_S) (i : Nat) : zz_fr S i = 0 ∨ zz_fr S i = 1 := by unfold zz_fr; split <;> omega
theorem zz_gn_rng (S : zz_S) (q lim : Int) : ∀ i : Nat, -(i : Int) ≤ zz_gn S q lim i ∧ zz_gn S q lim i ≤ (i : Int)
  | 0 => by simp [zz_gn]
  | i + 1 => by
    have h := zz_gn_rng S q lim i
    have h2 := zz_fr_01 S i
    rw [zz_gn]
    omega
/-- the world behind a complaint's beginning -/
def zz_bg (S : zz_S) (j : Nat) (x : Int) : zz_S := zz_u (zz_u (zz_u (zz_u (zz_u S (61 + j) 0 x) (61 + j) 1 0) (61 + j) 2 60) (61 + j) 4 0) (61 + j) 7 (-1)
def zz_jn (S : zz_S) (j : Nat) (x : Int) : zz_S := zz_u S (61 + j) 3 ((S (61 + j) 3).toNat ||| 2 ^ x.toNat : Nat)
/-- .. and behind a complaint -/
def zz_cS (S : zz_S) (x y : Int) : zz_S := if zz_cj S y (S 0 9).toNat 0 = -1 then zz_jn (zz_u (zz_bg S (S 0 9).toNat y) 0 9 (S 0 9 + 1)) (S 0 9).toNat x else zz_jn S (zz_cj S y (S 0 9).toNat 0).toNat x
theorem zz_mulb {x y A B : Int} (hx : 0 ≤ x ∧ x ≤ A) (hy : 0 ≤ y ∧ y ≤ B) : 0 ≤ x * y ∧ x * y ≤ A * B := ⟨Int.mul_nonneg hx.1 hy.1, Int.mul_le_mul hx.2 hy.2 hy.1 (by omega)⟩
end
section
/-! what the reference's methods compute, as plain functions of its rows -/
/-- 1: the word that is typed is the k-th -/
def zz_mty (wd : Nat → Int) (n : Int) (k : Nat) : Int := if k = 0 then (if n = 5 ∧ wd 0 = 100 ∧ wd 1 = 101 ∧ wd 2 = 108 ∧ wd 3 = 97 ∧ wd 4 = 121 then 1 else 0) else if k = 1 then (if n = 7 ∧ wd 0 = 112 ∧ wd 1 = 114 ∧ wd 2 = 111 ∧ wd 3 = 109 ∧ wd 4 = 105 ∧ wd 5 = 115 ∧ wd 6 = 101 then 1 else 0) else if k = 2 then (if n = 4 ∧ wd 0 = 114 ∧ wd 1 = 117 ∧ wd 2 = 108 ∧ wd 3 = 101 then 1 else 0) else (if n = 6 ∧ wd 0 = 97 ∧ wd 1 = 110 ∧ wd 2 = 115 ∧ wd 3 = 119 ∧ wd 4 = 101 ∧ wd 5 = 114 then 1 else 0)
/-- the last of the first k kinds that is typed -/
def zz_mtk (wd : Nat → Int) (n : Int) : Nat → Int
  | 0 => -1
  | k + 1 => if zz_mty wd n k = 0 then zz_mtk wd n k else (k : Int)
theorem zz_mtk_rng (wd : Nat → Int) (n : Int) : ∀ k : Nat, -1 ≤ zz_mtk wd n k ∧ zz_mtk wd n k < (k : Int)
  | 0 => by rw [zz_mtk]; omega
  | k + 1 => by
    have h := zz_mtk_rng wd n k
    rw [zz_mtk]
    split <;> omega
theorem zz_mty_01 (wd : Nat → Int) (n : Int) (k : Nat) : zz_mty wd n k = 0 ∨ zz_mty wd n k = 1 := by unfold zz_mty; omega
def zz_mwo (af : Nat → Int) (d : Int) : Nat → Int → Int
  | 0, o => o
  | n + 1, o => if af (5001 * o + d).toNat ≤ 0 then o else zz_mwo af d n (af (5001 * o + d).toNat - 1)
theorem zz_mwo_rng {af : Nat → Int} {d : Int} (hd : 0 ≤ d ∧ d ≤ 5000) (h : ∀ j, j < 50010 → 0 ≤ af j ∧ af j ≤ 10) : ∀ (n : Nat) (o : Int), 0 ≤ o ∧ o ≤ 9 → 0 ≤ zz_mwo af d n o ∧ zz_mwo af d n o ≤ 9
  | 0, o, ho => ho
  | n + 1, o, ho => by
    have h1 := h (5001 * o + d).toNat (by omega)
    rw [zz_mwo]
    split
    · exact ho
    · exact zz_mwo_rng hd h n _ (by omega)
def zz_mcl (ab : Nat → Int) : Nat → Int → Int
  | 0, o => o
  | n + 1, o => if ab o.toNat = -1 then o else zz_mcl ab n (ab o.toNat)
theorem zz_mcl_stop {ab : Nat → Int} {o : Int} (h : ab o.toNat = -1) : ∀ {n : Nat}, zz_mcl ab n o = o
  | 0 => rfl
  | n + 1 => by rw [zz_mcl, if_pos h]
def zz_mli (kd wh : Nat → Int) (i j : Nat) : Int := if ¬ (i : Int) = (j : Int) ∧ kd i = kd j ∧ wh i = wh j then 1 else 0
theorem zz_mli_01 (kd wh : Nat → Int) (i j : Nat) : zz_mli kd wh i j = 0 ∨ zz_mli kd wh i j = 1 := by unfold zz_mli; split <;> omega
def zz_mln (kd wh : Nat → Int) (i : Nat) : Nat → Int
  | 0 => 0
  | j + 1 => zz_mln kd wh i j + (if zz_mli kd wh i j = 0 then 0 else 1)
theorem zz_mln_rng (kd wh : Nat → Int) (i : Nat) : ∀ j : Nat, 0 ≤ zz_mln kd wh i j ∧ zz_mln kd wh i j ≤ (j : Int)
  | 0 => by simp [zz_mln]
  | j + 1 => by
    have h := zz_mln_rng kd wh i j
    rw [zz_mln]
    omega
def zz_mls (kd wh ms : Nat → Int) (i : Nat) : Nat → Int
  | 0 => 0
  | j + 1 => zz_mls kd wh ms i j + (if zz_mli kd wh i j = 0 then 0 else ms j)
theorem zz_mls_rng (kd wh ms : Nat → Int) (i N : Nat) (hm : ∀ j : Nat, j < N → 0 ≤ ms j ∧ ms j ≤ 100) : ∀ j : Nat, j ≤ N → 0 ≤ zz_mls kd wh ms i j ∧ zz_mls kd wh ms i j ≤ 100 * (j : Int)
  | 0, _ => by simp [zz_mls]
  | j + 1, h => by
    have h1 := zz_mls_rng kd wh ms i N hm j (by omega)
    have h2 := hm j (by omega)
    rw [zz_mls]
    omega
def zz_mfr (ms lm kd td : Nat → Int) (i : Nat) : Int := if lm (5001 * kd i + td i).toNat < ms i then 1 else 0
theorem zz_mfr_01 (ms lm kd td : Nat → Int) (i : Nat) : zz_mfr ms lm kd td i = 0 ∨ zz_mfr ms lm kd td i = 1 := by unfold zz_mfr; split <;> omega
def zz_mun (kd wh ms : Nat → Int) (n i : Nat) : Int := if zz_mln kd wh i n < 2 then 0 else if 2 * (zz_mls kd wh ms i n / zz_mln kd wh i n) < ms i then 1 else 0
def zz_mft (ms lm kd td wh : Nat → Int) (n i : Nat) : Int := (if zz_mfr ms lm kd td i = 0 then 0 else 1) + (if zz_mun kd wh ms n i = 0 then 0 else 2)
theorem zz_mft_rng (ms lm kd td wh : Nat → Int) (n i : Nat) : 0 ≤ zz_mft ms lm kd td wh n i ∧ zz_mft ms lm kd td wh n i ≤ 3 := by unfold zz_mft; split <;> split <;> omega
/-- what bars a complaint: plea's row, the day, in court, waived, told -/
def zz_mba (pl ct wv td : Nat → Int) (now : Int) (p i : Nat) : Int := if pl (10 * i + p) = -1 ∨ now - pl (10 * i + p) < 10 then 1 else if ¬ ct i = 0 then 2 else if 365 < now - td i ∧ wv i = 0 then 3 else 0
def zz_mcj (ab st : Nat → Int) (x : Int) : Nat → Int
  | 0 => -1
  | j + 1 => if ab j = x ∧ ¬ st j = 2 then (j : Int) else zz_mcj ab st x j
theorem zz_mcj_rng (ab st : Nat → Int) (x : Int) : ∀ j : Nat, -1 ≤ zz_mcj ab st x j ∧ zz_mcj ab st x j < (j : Int)
  | 0 => by rw [zz_mcj]; omega
  | j + 1 => by
    have h := zz_mcj_rng ab st x j
    rw [zz_mcj]
    split <;> omega
def zz_mow (ak an : Nat → Int) (j : Nat) : Int := if ¬ ak j = -1 ∧ an j = 0 then 1 else 0
def zz_mrb (ab ms lm kd td wh : Nat → Int) (n c i : Nat) : Int := if (i : Int) = ab c then 1 else if zz_mli kd wh (ab c).toNat i = 0 then 0 else if zz_mft ms lm kd td wh n i = 0 then 0 else 1
theorem zz_mrb_01 (ab ms lm kd td wh : Nat → Int) (n c i : Nat) : zz_mrb ab ms lm kd td wh n c i = 0 ∨ zz_mrb ab ms lm kd td wh n c i = 1 := by unfold zz_mrb; omega
/-- the remedies of the first i acts are given -/
def zz_mrS (S : zz_S) (n c : Nat) (x : Int) : Nat → zz_S
  | 0 => S
  | i + 1 => if zz_mrb (S 91) (S 85) (S 81) (S 83) (S 84) (S 82) n c i = 0 then zz_mrS S n c x i else zz_u (zz_mrS S n c x i) 89 i ((x * S 86 i) / 100)
def zz_mrn (ab ms lm kd td wh : Nat → Int) (n c : Nat) : Nat → Int
  | 0 => 0
  | i + 1 => zz_mrn ab ms lm kd td wh n c i + zz_mrb ab ms lm kd td wh n c i
theorem zz_mrn_rng (ab ms lm kd td wh : Nat → Int) (n c : Nat) : ∀ i : Nat, 0 ≤ zz_mrn ab ms lm kd td wh n c i ∧ zz_mrn ab ms lm kd td wh n c i ≤ (i : Int)
  | 0 => by simp [zz_mrn]
  | i + 1 => by
    have h := zz_mrn_rng ab ms lm kd td wh n c i
    have h2 := zz_mrb_01 ab ms lm kd td wh n c i
    rw [zz_mrn]
    omega
theorem zz_mrS_off (S : zz_S) (n c : Nat) (x : Int) {k : Nat} (hk : k ≠ 89) : ∀ i : Nat, zz_mrS S n c x i k = S k
  | 0 => rfl
  | i + 1 => by
    rw [zz_mrS]
    split
    · exact zz_mrS_off S n c x hk i
    · rw [zz_u_off _ _ hk]
      exact zz_mrS_off S n c x hk i
/-- a day goes by for the complaint c -/
def zz_mp0 (S : zz_S) (c : Nat) : zz_S := if ¬ S 92 c = 0 ∨ ¬ zz_mow (S 95) (S 96) c = 0 then S else zz_u (zz_u S 93 c (S 93 c - 1)) 92 c (if S 93 c - 1 = 0 then 2 else 0)
def zz_mp1 (S : zz_S) : Nat → zz_S
  | 0 => S
  | c + 1 => zz_mp0 (zz_mp1 S c) c
def zz_mpd (S : zz_S) (n : Nat) : Nat → zz_S
  | 0 => S
  | k + 1 => zz_mp1 (zz_u (zz_mpd S n k) 77 0 (zz_mpd S n k 77 0 + 1)) n
theorem zz_mp0_off (S : zz_S) (c : Nat) {k : Nat} (h1 : k ≠ 92) (h2 : k ≠ 93) : zz_mp0 S c k = S k := by
  unfold zz_mp0
  split
  · rfl
  · rw [zz_u_off _ _ h1, zz_u_off _ _ h2]
theorem zz_mp1_off (S : zz_S) {k : Nat} (h1 : k ≠ 92) (h2 : k ≠ 93) : ∀ c : Nat, zz_mp1 S c k = S k
  | 0 => rfl
  | c + 1 => by rw [zz_mp1, zz_mp0_off _ _ h1 h2]; exact zz_mp1_off S h1 h2 c
theorem zz_mp0_ne (S : zz_S) {c j k : Nat} (h : j ≠ c) : zz_mp0 S c k j = S k j := by
  unfold zz_mp0
  split
  · rfl
  · rw [zz_u_ne _ _ (by omega), zz_u_ne _ _ (by omega)]
theorem zz_mp1_ne (S : zz_S) {j k : Nat} : ∀ c : Nat, c ≤ j → zz_mp1 S c k j = S k j
  | 0, _ => rfl
  | c + 1, h => by rw [zz_mp1, zz_mp0_ne _ (by omega)]; exact zz_mp1_ne S c (by omega)
theorem zz_mp1_at (S : zz_S) {j k : Nat} : ∀ c : Nat, j < c → zz_mp1 S c k j = zz_mp0 (zz_mp1 S j) j k j
  | 0, h => absurd h (Nat.not_lt_zero j)
  | c + 1, h => by
    rw [zz_mp1]
    by_cases q : j = c
    · rw [q]
    · rw [zz_mp0_ne _ q]
      exact zz_mp1_at S c (by omega)
theorem zz_mp0_lo (S : zz_S) (c j : Nat) : S 93 j - 1 ≤ zz_mp0 S c 93 j := by
  unfold zz_mp0
  split
  · omega
  · rw [zz_u_ne _ _ (by omega), zz_u_at]
    split
    next h => rw [h.2]; omega
    next => omega
theorem zz_mp1_lo (S : zz_S) (j c : Nat) : S 93 j - 1 ≤ zz_mp1 S c 93 j := by
  by_cases h : j < c
  · rw [zz_mp1_at S c h]
    have h1 := zz_mp0_lo (zz_mp1 S j) j j
    rw [zz_mp1_ne S j (Nat.le_refl j)] at h1
    exact h1
  · rw [zz_mp1_ne S c (by omega)]; omega
theorem zz_mpd_lo (S : zz_S) (n j : Nat) : ∀ k : Nat, S 93 j - k ≤ zz_mpd S n k 93 j
  | 0 => by rw [zz_mpd]; omega
  | k + 1 => by
    have h := zz_mpd_lo S n j k
    have h2 := zz_mp1_lo (zz_u (zz_mpd S n k) 77 0 (zz_mpd S n k 77 0 + 1)) j n
    rw [zz_u_ne _ _ (by omega)] at h2
    rw [zz_mpd]
    omega
theorem zz_mpd_off (S : zz_S) (n : Nat) {k f : Nat} (h1 : k ≠ 92) (h2 : k ≠ 93) (h3 : ¬ (k = 77 ∧ f = 0)) : ∀ i : Nat, zz_mpd S n i k f = S k f
  | 0 => rfl
  | i + 1 => by
    rw [zz_mpd, zz_mp1_off _ h1 h2, zz_u_ne _ _ h3]
    exact zz_mpd_off S n h1 h2 h3 i
theorem zz_mpd_day (S : zz_S) (n : Nat) : ∀ i : Nat, zz_mpd S n i 77 0 = S 77 0 + i
  | 0 => by rw [zz_mpd]; omega
  | i + 1 => by
    have h := zz_mpd_day S n i
    rw [zz_mpd, zz_mp1_off _ (by omega) (by omega), zz_u_same]
    omega
def zz_on (x : Nat) : Nat → Nat
  | 0 => 0
  | k + 1 => zz_on x k + x / 2 ^ k % 2
theorem zz_on_rng (x : Nat) : ∀ k : Nat, zz_on x k ≤ k
  | 0 => by rw [zz_on]; omega
  | k + 1 => by
    have h := zz_on_rng x k
    rw [zz_on]
    omega
def zz_mgn (ms lm kd td : Nat → Int) (q lim : Int) : Nat → Int
  | 0 => 0
  | i + 1 => zz_mgn ms lm kd td q lim i + (if ¬ kd i = q ∨ (if lim < ms i then 1 else 0) = zz_mfr ms lm kd td i then 0 else if lim < ms i then 1 else -1)
theorem zz_mgn_rng (ms lm kd td : Nat → Int) (q lim : Int) : ∀ i : Nat, -(i : Int) ≤ zz_mgn ms lm kd td q lim i ∧ zz_mgn ms lm kd td q lim i ≤ (i : Int)
  | 0 => by simp [zz_mgn]
  | i + 1 => by
    have h := zz_mgn_rng ms lm kd td q lim i
    rw [zz_mgn]
    omega
/-- an office acts from the day d on: the first n of its days -/
def zz_mfl (S : zz_S) (p : Nat) (b : Int) (v : Int) (d : Nat) : Nat → zz_S
  | 0 => S
  | n + 1 => zz_u (zz_mfl S p b v d n) p (b + (d + n : Nat)).toNat v
theorem zz_mfl_off (S : zz_S) (p : Nat) (b v : Int) (d : Nat) {k : Nat} (h : k ≠ p) : ∀ n : Nat, zz_mfl S p b v d n k = S k
  | 0 => rfl
  | n + 1 => by rw [zz_mfl, zz_u_off _ _ h]; exact zz_mfl_off S p b v d h n
def zz_IM (S : zz_S) : Prop := (0 ≤ S 77 0 ∧ S 77 0 ≤ 5000) ∧ (0 ≤ S 77 2 ∧ S 77 2 ≤ 7) ∧ (0 ≤ S 77 3 ∧ S 77 3 ≤ 10) ∧ (0 ≤ S 77 7 ∧ S 77 7 ≤ 24) ∧ (0 ≤ S 77 17 ∧ S 77 17 ≤ 16) ∧ zz_rr S 80 50010 0 10 ∧ zz_rr S 81 20004 0 100 ∧ zz_rr S 82 24 0 9 ∧ zz_rr S 83 24 0 3 ∧ zz_rr S 84 24 0 5000 ∧ zz_rr S 85 24 0 100 ∧ zz_rr S 86 24 0 1000 ∧ zz_rr S 87 24 0 1 ∧ zz_rr S 88 24 0 1 ∧ zz_rr S 90 240 (-1) 5000 ∧ zz_rr S 91 16 0 23 ∧ zz_rr S 92 16 0 2 ∧ zz_rr S 93 16 0 60 ∧ zz_rr S 94 16 0 1023 ∧ zz_rr S 95 16 (-1) 5000 ∧ zz_rr S 96 16 0 1 ∧ zz_rr S 97 16 0 1 ∧ zz_rr S 98 16 (-1) 3 ∧ zz_rr S 79 10 (-1) 9 ∧ (∀ j : Nat, j < 16 → S 95 j ≤ S 77 0)
end
section
abbrev rm_X4_in : Room := { frames := 0, cells := 0, slots := 0, locals := 0 }
set_option maxHeartbeats 4000000 in
set_option maxRecDepth 100000 in
theorem c_X4_in (l : Launch) (hl9 : l.stackTraces = false) (N0 : Nat) (G : zz_G) (Y : zz_Y) (a : Nat → Nat) (S : zz_S) (x lo hi : Int) (hx : zz_R x) (hlo : zz_R lo) (hhi : zz_R hi) : CtR l yX4_in wsX4_in rm_X4_in 0 [zz_v x, zz_v lo, zz_v hi] N0 G Y a S (if lo ≤ x ∧ x ≤ hi then 1 else 0) (S) (True) (False) (False) (False) := by
  refine Ct_.of (cc := cX4_in) (maxL := 3) (ret := (some .boolean)) (by decide) rfl (Nat.le_of_ble_eq_true rfl) ?_
  intro p e s m args below meth c hC hts hr hlk hex hF
  have hK := hF.2.1
  refine gd_lveq (lv' := [(0, zz_v x), (1, zz_v lo), (2, zz_v hi)]) rfl ?_
  obtain ⟨hx1, hx2⟩ := id hx
  obtain ⟨hlo1, hlo2⟩ := id hlo
  obtain ⟨hhi1, hhi2⟩ := id hhi
  refine gd_iload_n hC dX4_in_0 rfl (j := 0) rfl ?_
  refine gd_iload_n hC dX4_in_1 rfl (j := 1) rfl ?_
  refine gd_icmp_lt hC dX4_in_2 (tgt := 14) (by decide) ⟨by omega, by omega⟩ ⟨by omega, by omega⟩ (fun c1 => ?_) (fun c1 => ?_)
  · skip
    refine gd_iconst hC dX4_in_14 ?_
    exact gd_ireturn hC hr (zz_nb (by omega)) hlk dX4_in_15 (by decide) ⟨_, ⟨by decide, by decide⟩, rfl, (by first | rfl | ((repeat' split) <;> first | rfl | omega)), (by first | rfl | omega), trivial⟩
  · skip
    refine gd_iload_n hC dX4_in_5 rfl (j := 0) rfl ?_
    refine gd_iload_n hC dX4_in_6 rfl (j := 2) rfl ?_
    refine gd_icmp_gt hC dX4_in_7 (tgt := 14) (by decide) ⟨by omega, by omega⟩ ⟨by omega, by omega⟩ (fun c2 => ?_) (fun c2 => ?_)
    · skip
      refine gd_iconst hC dX4_in_14 ?_
      exact gd_ireturn hC hr (zz_nb (by omega)) hlk dX4_in_15 (by decide) ⟨_, ⟨by decide, by decide⟩, rfl, (by first | rfl | ((repeat' split) <;> first | rfl | omega)), (by first | rfl | omega), trivial⟩
    · skip
      refine gd_iconst hC dX4_in_10 ?_
      refine gd_goto hC dX4_in_11 (tgt := 15) (by decide) ?_
      exact gd_ireturn hC hr (zz_nb (by omega)) hlk dX4_in_15 (by decide) ⟨_, ⟨by decide, by decide⟩, rfl, (by first | rfl | ((repeat' split) <;> first | rfl | omega)), (by first | rfl | omega), trivial⟩

abbrev rm_X4_thrown : Room := { frames := 0, cells := 0, slots := 0, locals := 0 }
set_option maxHeartbeats 4000000 in
set_option maxRecDepth 100000 in
theorem c_X4_thrown (l : Launch) (hl9 : l.stackTraces = false) (N0 : Nat) (G : zz_G) (Y : zz_Y) (a : Nat → Nat) (S : zz_S)  : CtR l yX4_thrown wsX4_thrown rm_X4_thrown 0 [.ref (a 77)] N0 G Y a S (S 77 26) (S) (True) (False) (False) (False) := by
  refine Ct_.of (cc := cX4_thrown) (maxL := 1) (ret := (some .int)) (by decide) rfl (Nat.le_of_ble_eq_true rfl) ?_
  intro p e s m args below meth c hC hts hr hlk hex hF
  have hK := hF.2.1
  have w4 : ∀ w ∈ u_ws RX4 TX4 27, w.before args s = true := fun w h => hts w (List.mem_cons_of_mem _ (List.mem_append_right _ h))
  have f75 : (Cond.fieldLink RX4 75 "GrievancehallModel" "thrown" "I").before args s = true := hts _ (by decide +kernel)
  refine gd_lveq (lv' := [(0, .ref (a 77))]) rfl ?_
  refine gd_aload_n hC dX4_thrown_0 rfl (j := 0) rfl ?_
  refine gd_getI hC w4 hK (ci := 4) rfl (by decide) rfl 26 (by decide) rfl f75 rfl dX4_thrown_1 (fun r1 => ?_)
  obtain ⟨r1a, r1b⟩ := id r1
  exact gd_ireturn hC hr rfl hlk dX4_thrown_4 (by decide) ⟨_, ⟨by omega, by omega⟩, rfl, (by first | rfl | ((repeat' split) <;> first | rfl | omega)), (by first | rfl | omega), trivial⟩

abbrev rm_X4_fails : Room := { frames := 0, cells := 0, slots := 0, locals := 0 }
set_option maxHeartbeats 4000000 in
set_option maxRecDepth 100000 in
theorem c_X4_fails (l : Launch) (hl9 : l.stackTraces = false) (N0 : Nat) (G : zz_G) (Y : zz_Y) (a : Nat → Nat) (S : zz_S) (x : Int) (hx : zz_R x) : CtR l yX4_fails wsX4_fails rm_X4_fails 0 [.ref (a 77), zz_v x] N0 G Y a S (0) (zz_u (S) (77) (26) (x)) (True) (False) (False) (False) := by
  refine Ct_.of (cc := cX4_fails) (maxL := 2) (ret := (some .int)) (by decide) rfl (Nat.le_of_ble_eq_true rfl) ?_
  intro p e s m args below meth c hC hts hr hlk hex hF
  have hK := hF.2.1
  have w4 : ∀ w ∈ u_ws RX4 TX4 27, w.before args s = true := fun w h => hts w (List.mem_cons_of_mem _ (List.mem_append_right _ h))
  have f75 : (Cond.fieldLink RX4 75 "GrievancehallModel" "thrown" "I").before args s = true := hts _ (by decide +kernel)
  refine gd_lveq (lv' := [(0, .ref (a 77)), (1, zz_v x)]) rfl ?_
  obtain ⟨hx1, hx2⟩ := id hx
  refine gd_aload_n hC dX4_fails_0 rfl (j := 0) rfl ?_
  refine gd_iload_n hC dX4_fails_1 rfl (j := 1) rfl ?_
  refine gd_put hC w4 tyX4 tyX4_ok nmX4 hK (ci := 4) rfl (by decide) rfl 26 (by decide) rfl f75 rfl rfl (ty := .int) (by decide +kernel) rfl rfl ⟨by omega, by omega⟩ dX4_fails_2 ?_
  refine gd_iconst hC dX4_fails_5 ?_
  exact gd_ireturn hC hr rfl hlk dX4_fails_6 (by decide) ⟨_, ⟨by decide, by decide⟩, rfl, (by first | rfl | ((repeat' split) <;> first | rfl | omega)), (by first | rfl | omega), trivial⟩

abbrev rm_X4_asks : Room := { frames := 0, cells := 0, slots := 0, locals := 0 }
set_option maxHeartbeats 4000000 in
set_option maxRecDepth 100000 in
theorem c_X4_asks (l : Launch) (hl9 : l.stackTraces = false) (N0 : Nat) (G : zz_G) (Y : zz_Y) (a : Nat → Nat) (S : zz_S) (x : Int) (hx : x = 0 ∨ x = 1) : CtR l yX4_asks wsX4_asks rm_X4_asks 0 [.ref (a 77), zz_v x] N0 G Y a S (x) (zz_u (S) (77) (26) ((if x = 0 then 1 else 0))) (True) (False) (False) (False) := by
  refine Ct_.of (cc := cX4_asks) (maxL := 2) (ret := (some .boolean)) (by decide) rfl (Nat.le_of_ble_eq_true rfl) ?_
  intro p e s m args below meth c hC hts hr hlk hex hF
  have hK := hF.2.1
  have w4 : ∀ w ∈ u_ws RX4 TX4 27, w.before args s = true := fun w h => hts w (List.mem_cons_of_mem _ (List.mem_append_right _ h))
  have f75 : (Cond.fieldLink RX4 75 "GrievancehallModel" "thrown" "I").before args s = true := hts _ (by decide +kernel)
  refine gd_lveq (lv' := [(0, .ref (a 77)), (1, zz_v x)]) rfl ?_
  refine gd_aload_n hC dX4_asks_0 rfl (j := 0) rfl ?_
  refine gd_iload_n hC dX4_asks_1 rfl (j := 1) rfl ?_
  refine gd_if_eq hC dX4_asks_2 (tgt := 9) (by decide) ⟨by omega, by omega⟩ (fun c1 => ?_) (fun c1 => ?_)
  · skip
    refine gd_iconst hC dX4_asks_9 ?_
    refine gd_put hC w4 tyX4 tyX4_ok nmX4 hK (ci := 4) rfl (by decide) rfl 26 (by decide) rfl f75 rfl rfl (ty := .int) (by decide +kernel) rfl rfl ⟨by decide, by decide⟩ dX4_asks_10 ?_
    refine gd_iload_n hC dX4_asks_13 rfl (j := 1) rfl ?_
    exact gd_ireturn hC hr (zz_nb (by omega)) hlk dX4_asks_14 (by decide) ⟨_, ⟨by omega, by omega⟩, rfl, (by first | (rw [if_pos (by omega)]) | (rw [if_neg (by omega)])), (by first | rfl | omega), trivial⟩
  · skip
    refine gd_iconst hC dX4_asks_5 ?_
    refine gd_goto hC dX4_asks_6 (tgt := 10) (by decide) ?_
    refine gd_put hC w4 tyX4 tyX4_ok nmX4 hK (ci := 4) rfl (by decide) rfl 26 (by decide) rfl f75 rfl rfl (ty := .int) (by decide +kernel) rfl rfl ⟨by decide, by decide⟩ dX4_asks_10 ?_
    refine gd_iload_n hC dX4_asks_13 rfl (j := 1) rfl ?_
    exact gd_ireturn hC hr (zz_nb (by omega)) hlk dX4_asks_14 (by decide) ⟨_, ⟨by omega, by omega⟩, rfl, (by first | (rw [if_pos (by omega)]) | (rw [if_neg (by omega)])), (by first | rfl | omega), trivial⟩

abbrev rm_X4_isOffice : Room := { frames := 1, cells := 0, slots := 0, locals := 22 }
set_option maxHeartbeats 4000000 in
set_option maxRecDepth 100000 in
theorem c_X4_isOffice (l : Launch) (hl9 : l.stackTraces = false) (N0 : Nat) (G : zz_G) (Y : zz_Y) (a : Nat → Nat) (S : zz_S) (x : Int) (hx : zz_R x) (hn : 0 ≤ S 77 3 ∧ S 77 3 ≤ 1000) : CtR l yX4_isOffice wsX4_isOffice rm_X4_isOffice 0 [.ref (a 77), zz_v x] N0 G Y a S (if 0 ≤ x ∧ x ≤ S 77 3 - 1 then 1 else 0) (S) (True) (False) (False) (False) := by
  refine Ct_.of (cc := cX4_isOffice) (maxL := 2) (ret := (some .boolean)) (by decide) rfl (Nat.le_of_ble_eq_true rfl) ?_
  intro p e s m args below meth c hC hts hr hlk hex hF
  have hK := hF.2.1
  have w4 : ∀ w ∈ u_ws RX4 TX4 27, w.before args s = true := fun w h => hts w (List.mem_cons_of_mem _ (List.mem_append_right _ h))
  have f79 : (Cond.fieldLink RX4 79 "GrievancehallModel" "offices" "I").before args s = true := hts _ (by decide +kernel)
  refine gd_lveq (lv' := [(0, .ref (a 77)), (1, zz_v x)]) rfl ?_
  obtain ⟨hx1, hx2⟩ := id hx
  refine gd_iload_n hC dX4_isOffice_0 rfl (j := 1) rfl ?_
  refine gd_iconst hC dX4_isOffice_1 ?_
  refine gd_aload_n hC dX4_isOffice_2 rfl (j := 0) rfl ?_
  refine gd_getI hC w4 hK (ci := 4) rfl (by decide) rfl 3 (by decide) rfl f79 rfl dX4_isOffice_3 (fun r1 => ?_)
  obtain ⟨r1a, r1b⟩ := id r1
  refine gd_iconst hC dX4_isOffice_6 ?_
  refine gd_isub hC dX4_isOffice_7 ?_
  refine gd_callSR (As := [zz_v x, zz_v 0, zz_v ((S 77 3) - 1)]) (rest := []) hC hF (fun hR => c_X4_in l hl9 N0 G Y a (S) x 0 ((S 77 3) - 1) ⟨by omega, by omega⟩ ⟨by decide, by decide⟩ ⟨by omega, by omega⟩) (va_cwS 3 hts gX4_isOffice_X4_in rfl rfl rfl (by decide +kernel) ⟨by decide, by decide⟩) rfl rfl (Nat.le_of_ble_eq_true rfl) dX4_isOffice_8 ⟨by decide, by decide⟩ (fun E hx => zz_xn hx) (fun q2 q2r => ?_)
  obtain ⟨q2a, q2b⟩ := id q2r
  exact gd_ireturn hC hr (zz_nb (by omega)) hlk dX4_isOffice_11 (by decide) ⟨_, ⟨by omega, by omega⟩, rfl, (by first | rfl | ((repeat' split) <;> first | rfl | omega)), (by first | rfl | omega), trivial⟩

abbrev rm_X4_isAct : Room := { frames := 1, cells := 0, slots := 0, locals := 22 }
set_option maxHeartbeats 4000000 in
set_option maxRecDepth 100000 in
theorem c_X4_isAct (l : Launch) (hl9 : l.stackTraces = false) (N0 : Nat) (G : zz_G) (Y : zz_Y) (a : Nat → Nat) (S : zz_S) (x : Int) (hx : zz_R x) (hn : 0 ≤ S 77 7 ∧ S 77 7 ≤ 1000) : CtR l yX4_isAct wsX4_isAct rm_X4_isAct 0 [.ref (a 77), zz_v x] N0 G Y a S (if 0 ≤ x ∧ x ≤ S 77 7 - 1 then 1 else 0) (S) (True) (False) (False) (False) := by
  refine Ct_.of (cc := cX4_isAct) (maxL := 2) (ret := (some .boolean)) (by decide) rfl (Nat.le_of_ble_eq_true rfl) ?_
  intro p e s m args below meth c hC hts hr hlk hex hF
  have hK := hF.2.1
  have w4 : ∀ w ∈ u_ws RX4 TX4 27, w.before args s = true := fun w h => hts w (List.mem_cons_of_mem _ (List.mem_append_right _ h))
  have f86 : (Cond.fieldLink RX4 86 "GrievancehallModel" "acts" "I").before args s = true := hts _ (by decide +kernel)
  refine gd_lveq (lv' := [(0, .ref (a 77)), (1, zz_v x)]) rfl ?_
  obtain ⟨hx1, hx2⟩ := id hx
  refine gd_iload_n hC dX4_isAct_0 rfl (j := 1) rfl ?_
  refine gd_iconst hC dX4_isAct_1 ?_
  refine gd_aload_n hC dX4_isAct_2 rfl (j := 0) rfl ?_
  refine gd_getI hC w4 hK (ci := 4) rfl (by decide) rfl 7 (by decide) rfl f86 rfl dX4_isAct_3 (fun r1 => ?_)
  obtain ⟨r1a, r1b⟩ := id r1
  refine gd_iconst hC dX4_isAct_6 ?_
  refine gd_isub hC dX4_isAct_7 ?_
  refine gd_callSR (As := [zz_v x, zz_v 0, zz_v ((S 77 7) - 1)]) (rest := []) hC hF (fun hR => c_X4_in l hl9 N0 G Y a (S) x 0 ((S 77 7) - 1) ⟨by omega, by omega⟩ ⟨by decide, by decide⟩ ⟨by omega, by omega⟩) (va_cwS 3 hts gX4_isAct_X4_in rfl rfl rfl (by decide +kernel) ⟨by decide, by decide⟩) rfl rfl (Nat.le_of_ble_eq_true rfl) dX4_isAct_8 ⟨by decide, by decide⟩ (fun E hx => zz_xn hx) (fun q2 q2r => ?_)
  obtain ⟨q2a, q2b⟩ := id q2r
  exact gd_ireturn hC hr (zz_nb (by omega)) hlk dX4_isAct_11 (by decide) ⟨_, ⟨by omega, by omega⟩, rfl, (by first | rfl | ((repeat' split) <;> first | rfl | omega)), (by first | rfl | omega), trivial⟩

abbrev rm_X4_isComplaint : Room := { frames := 1, cells := 0, slots := 0, locals := 22 }
set_option maxHeartbeats 4000000 in
set_option maxRecDepth 100000 in
theorem c_X4_isComplaint (l : Launch) (hl9 : l.stackTraces = false) (N0 : Nat) (G : zz_G) (Y : zz_Y) (a : Nat → Nat) (S : zz_S) (x : Int) (hx : zz_R x) (hn : 0 ≤ S 77 17 ∧ S 77 17 ≤ 1000) : CtR l yX4_isComplaint wsX4_isComplaint rm_X4_isComplaint 0 [.ref (a 77), zz_v x] N0 G Y a S (if 0 ≤ x ∧ x ≤ S 77 17 - 1 then 1 else 0) (S) (True) (False) (False) (False) := by
  refine Ct_.of (cc := cX4_isComplaint) (maxL := 2) (ret := (some .boolean)) (by decide) rfl (Nat.le_of_ble_eq_true rfl) ?_
  intro p e s m args below meth c hC hts hr hlk hex hF
  have hK := hF.2.1
  have w4 : ∀ w ∈ u_ws RX4 TX4 27, w.before args s = true := fun w h => hts w (List.mem_cons_of_mem _ (List.mem_append_right _ h))
  have f89 : (Cond.fieldLink RX4 89 "GrievancehallModel" "complaints" "I").before args s = true := hts _ (by decide +kernel)
  refine gd_lveq (lv' := [(0, .ref (a 77)), (1, zz_v x)]) rfl ?_
  obtain ⟨hx1, hx2⟩ := id hx
  refine gd_iload_n hC dX4_isComplaint_0 rfl (j := 1) rfl ?_
  refine gd_iconst hC dX4_isComplaint_1 ?_
  refine gd_aload_n hC dX4_isComplaint_2 rfl (j := 0) rfl ?_
  refine gd_getI hC w4 hK (ci := 4) rfl (by decide) rfl 17 (by decide) rfl f89 rfl dX4_isComplaint_3 (fun r1 => ?_)
  obtain ⟨r1a, r1b⟩ := id r1
  refine gd_iconst hC dX4_isComplaint_6 ?_
  refine gd_isub hC dX4_isComplaint_7 ?_
  refine gd_callSR (As := [zz_v x, zz_v 0, zz_v ((S 77 17) - 1)]) (rest := []) hC hF (fun hR => c_X4_in l hl9 N0 G Y a (S) x 0 ((S 77 17) - 1) ⟨by omega, by omega⟩ ⟨by decide, by decide⟩ ⟨by omega, by omega⟩) (va_cwS 3 hts gX4_isComplaint_X4_in rfl rfl rfl (by decide +kernel) ⟨by decide, by decide⟩) rfl rfl (Nat.le_of_ble_eq_true rfl) dX4_isComplaint_8 ⟨by decide, by decide⟩ (fun E hx => zz_xn hx) (fun q2 q2r => ?_)
  obtain ⟨q2a, q2b⟩ := id q2r
  exact gd_ireturn hC hr (zz_nb (by omega)) hlk dX4_isComplaint_11 (by decide) ⟨_, ⟨by omega, by omega⟩, rfl, (by first | rfl | ((repeat' split) <;> first | rfl | omega)), (by first | rfl | omega), trivial⟩

abbrev rm_X4_isKind : Room := { frames := 1, cells := 0, slots := 0, locals := 22 }
set_option maxHeartbeats 4000000 in
set_option maxRecDepth 100000 in
theorem c_X4_isKind (l : Launch) (hl9 : l.stackTraces = false) (N0 : Nat) (G : zz_G) (Y : zz_Y) (a : Nat → Nat) (S : zz_S) (x : Int) (hx : zz_R x) : CtR l yX4_isKind wsX4_isKind rm_X4_isKind 0 [zz_v x] N0 G Y a S (if 0 ≤ x ∧ x ≤ 3 then 1 else 0) (S) (True) (False) (False) (False) := by
  refine Ct_.of (cc := cX4_isKind) (maxL := 1) (ret := (some .boolean)) (by decide) rfl (Nat.le_of_ble_eq_true rfl) ?_
  intro p e s m args below meth c hC hts hr hlk hex hF
  have hK := hF.2.1
  refine gd_lveq (lv' := [(0, zz_v x)]) rfl ?_
  obtain ⟨hx1, hx2⟩ := id hx
  refine gd_iload_n hC dX4_isKind_0 rfl (j := 0) rfl ?_
  refine gd_iconst hC dX4_isKind_1 ?_
  refine gd_iconst hC dX4_isKind_2 ?_
  refine gd_callSR (As := [zz_v x, zz_v 0, zz_v 3]) (rest := []) hC hF (fun hR => c_X4_in l hl9 N0 G Y a (S) x 0 3 ⟨by omega, by omega⟩ ⟨by decide, by decide⟩ ⟨by decide, by decide⟩) (va_cwS 3 hts gX4_isKind_X4_in rfl rfl rfl (by decide +kernel) ⟨by decide, by decide⟩) rfl rfl (Nat.le_of_ble_eq_true rfl) dX4_isKind_3 ⟨by decide, by decide⟩ (fun E hx => zz_xn hx) (fun q1 q1r => ?_)
  obtain ⟨q1a, q1b⟩ := id q1r
  exact gd_ireturn hC hr (zz_nb (by omega)) hlk dX4_isKind_6 (by decide) ⟨_, ⟨by omega, by omega⟩, rfl, (by first | rfl | ((repeat' split) <;> first | rfl | omega)), (by first | rfl | omega), trivial⟩

abbrev rm_X4_isThere : Room := { frames := 2, cells := 0, slots := 0, locals := 43 }
set_option maxHeartbeats 4000000 in
set_option maxRecDepth 100000 in
theorem c_X4_isThere (l : Launch) (hl9 : l.stackTraces = false) (N0 : Nat) (G : zz_G) (Y : zz_Y) (a : Nat → Nat) (S : zz_S) (x y : Int) (hx : zz_R x) (hy : zz_R y) (hn : 0 ≤ S 77 7 ∧ S 77 7 ≤ 1000) : CtR l yX4_isThere wsX4_isThere rm_X4_isThere 0 [.ref (a 77), zz_v x, zz_v y] N0 G Y a S (if (0 ≤ x ∧ x ≤ 9) ∧ 0 ≤ y ∧ y ≤ S 77 7 - 1 then 1 else 0) (S) (True) (False) (False) (False) := by
  refine Ct_.of (cc := cX4_isThere) (maxL := 3) (ret := (some .boolean)) (by decide) rfl (Nat.le_of_ble_eq_true rfl) ?_
  intro p e s m args below meth c hC hts hr hlk hex hF
  have hK := hF.2.1
  refine gd_lveq (lv' := [(0, .ref (a 77)), (1, zz_v x), (2, zz_v y)]) rfl ?_
  obtain ⟨hx1, hx2⟩ := id hx
  obtain ⟨hy1, hy2⟩ := id hy
  refine gd_iload_n hC dX4_isThere_0 rfl (j := 1) rfl ?_
  refine gd_iconst hC dX4_isThere_1 ?_
  refine gd_bipush hC dX4_isThere_2 rfl ?_
  refine gd_callSR (As := [zz_v x, zz_v 0, zz_v 9]) (rest := []) hC hF (fun hR => c_X4_in l hl9 N0 G Y a (S) x 0 9 ⟨by omega, by omega⟩ ⟨by decide, by decide⟩ ⟨by decide, by decide⟩) (va_cwS 3 hts gX4_isThere_X4_in rfl rfl rfl (by decide +kernel) ⟨by decide, by decide⟩) rfl rfl (Nat.le_of_ble_eq_true rfl) dX4_isThere_4 ⟨by decide, by decide⟩ (fun E hx => zz_xn hx) (fun q1 q1r => ?_)
  obtain ⟨q1a, q1b⟩ := id q1r
  refine gd_if_eq hC dX4_isThere_7 (tgt := 22) (by decide) ⟨by omega, by omega⟩ (fun c2 => ?_) (fun c2 => ?_)
  · skip
    refine gd_iconst hC dX4_isThere_22 ?_
    exact gd_ireturn hC hr (zz_nb (by omega)) hlk dX4_isThere_23 (by decide) ⟨_, ⟨by decide, by decide⟩, rfl, (by first | rfl | ((repeat' split) <;> first | rfl | omega)), (by first | rfl | omega), trivial⟩
  · skip
    refine gd_aload_n hC dX4_isThere_10 rfl (j := 0) rfl ?_
    refine gd_iload_n hC dX4_isThere_11 rfl (j := 2) rfl ?_
    refine gd_callVR (As := [zz_v y]) (rest := []) hC hF (fun hR => c_X4_isAct l hl9 N0 G Y a (S) y ⟨by omega, by omega⟩ (by omega)) (cwV 1 hts gX4_isThere_X4_isAct rfl rfl rfl (by decide +kernel) ⟨by decide, by decide⟩) rfl (by decide) (ci := 4) rfl rfl rfl rfl (Nat.le_of_ble_eq_true rfl) dX4_isThere_12 ⟨by decide, by decide⟩ (fun E hx => zz_xn hx) (fun q3 q3r => ?_)
    obtain ⟨q3a, q3b⟩ := id q3r
    refine gd_if_eq hC dX4_isThere_15 (tgt := 22) (by decide) ⟨by omega, by omega⟩ (fun c4 => ?_) (fun c4 => ?_)
    · skip
      refine gd_iconst hC dX4_isThere_22 ?_
      exact gd_ireturn hC hr (zz_nb (by omega)) hlk dX4_isThere_23 (by decide) ⟨_, ⟨by decide, by decide⟩, rfl, (by first | rfl | ((repeat' split) <;> first | rfl | omega)), (by first | rfl | omega), trivial⟩
    · skip
      refine gd_iconst hC dX4_isThere_18 ?_
      refine gd_goto hC dX4_isThere_19 (tgt := 23) (by decide) ?_
      exact gd_ireturn hC hr (zz_nb (by omega)) hlk dX4_isThere_23 (by decide) ⟨_, ⟨by decide, by decide⟩, rfl, (by first | rfl | ((repeat' split) <;> first | rfl | omega)), (by first | rfl | omega), trivial⟩

abbrev rm_X4_isTyped : Room := { frames := 0, cells := 0, slots := 0, locals := 0 }
set_option maxHeartbeats 4000000 in
set_option maxRecDepth 100000 in
theorem c_X4_isTyped (l : Launch) (hl9 : l.stackTraces = false) (N0 : Nat) (G : zz_G) (Y : zz_Y) (a : Nat → Nat) (S : zz_S) (x : Int) (k : Nat) (hk : x = (k : Int)) (hk2 : k < 4) (hl : 0 ≤ S 77 2 ∧ S 77 2 ≤ 7) : CtR l yX4_isTyped wsX4_isTyped rm_X4_isTyped 0 [.ref (a 77), zz_v x] N0 G Y a S (zz_mty (S 78) (S 77 2) k) (S) (zz_mty (S 78) (S 77 2) k = 0 ∨ zz_mty (S 78) (S 77 2) k = 1) (False) (False) (False) := by
  refine Ct_.of (cc := cX4_isTyped) (maxL := 2) (ret := (some .boolean)) (by decide) rfl (Nat.le_of_ble_eq_true rfl) ?_
  intro p e s m args below meth c hC hts hr hlk hex hF
  have hK := hF.2.1
  have w4 : ∀ w ∈ u_ws RX4 TX4 27, w.before args s = true := fun w h => hts w (List.mem_cons_of_mem _ (List.mem_append_right _ h))
  have f7 : (Cond.fieldLink RX4 7 "GrievancehallModel" "word" "[I").before args s = true := hts _ (by decide +kernel)
  have f96 : (Cond.fieldLink RX4 96 "GrievancehallModel" "letters" "I").before args s = true := hts _ (by decide +kernel)
  refine gd_lveq (lv' := [(0, .ref (a 77)), (1, zz_v x)]) rfl ?_
  refine gd_iload_n hC dX4_isTyped_0 rfl (j := 1) rfl ?_
  have c1 : (x < 0 ∨ 2 < x) ∨ x = 0 ∨ x = 1 ∨ x = 2 := by omega
  rcases c1 with c1 | c1 | c1 | c1
  · skip
    refine gd_tableOut hC dX4_isTyped_1 ⟨by omega, by omega⟩ c1 (tgt := 248) (by decide) ?_
    refine gd_aload_n hC dX4_isTyped_248 rfl (j := 0) rfl ?_
    refine gd_getI hC w4 hK (ci := 4) rfl (by decide) rfl 2 (by decide) rfl f96 rfl dX4_isTyped_249 (fun r2 => ?_)
    obtain ⟨r2a, r2b⟩ := id r2
    refine gd_bipush hC dX4_isTyped_252 rfl ?_
    refine gd_icmp_ne hC dX4_isTyped_254 (tgt := 327) (by decide) ⟨by omega, by omega⟩ ⟨by decide, by decide⟩ (fun c3 => ?_) (fun c3 => ?_)
    · skip
      refine gd_iconst hC dX4_isTyped_327 ?_
      exact gd_ireturn hC hr (zz_nb (by omega)) hlk dX4_isTyped_328 (by decide) ⟨_, ⟨by decide, by decide⟩, rfl, (by first | rfl | ((repeat' split) <;> first | rfl | omega)), (by unfold zz_mty; omega), (zz_mty_01 _ _ _)⟩
    · skip
      refine gd_aload_n hC dX4_isTyped_257 rfl (j := 0) rfl ?_
      refine gd_getR hC w4 hK (ci := 4) rfl (by decide) rfl 1 (by decide) (j := 78) rfl f7 rfl dX4_isTyped_258 ?_
      refine gd_iconst hC dX4_isTyped_261 ?_
      refine gd_iald hC hK (j := 0) rfl (by decide) rfl (by omega) (by decide) dX4_isTyped_262 (fun r4 => ?_)
      obtain ⟨r4a, r4b⟩ := id r4
      refine gd_bipush hC dX4_isTyped_263 rfl ?_
      refine gd_icmp_ne hC dX4_isTyped_265 (tgt := 327) (by decide) ⟨by omega, by omega⟩ ⟨by decide, by decide⟩ (fun c5 => ?_) (fun c5 => ?_)
      · skip
        refine gd_iconst hC dX4_isTyped_327 ?_
        exact gd_ireturn hC hr (zz_nb (by omega)) hlk dX4_isTyped_328 (by decide) ⟨_, ⟨by decide, by decide⟩, rfl, (by first | rfl | ((repeat' split) <;> first | rfl | omega)), (by unfold zz_mty; omega), (zz_mty_01 _ _ _)⟩
      · skip
        refine gd_aload_n hC dX4_isTyped_268 rfl (j := 0) rfl ?_
        refine gd_getR hC w4 hK (ci := 4) rfl (by decide) rfl 1 (by decide) (j := 78) rfl f7 rfl dX4_isTyped_269 ?_
        refine gd_iconst hC dX4_isTyped_272 ?_
        refine gd_iald hC hK (j := 1) rfl (by decide) rfl (by omega) (by decide) dX4_isTyped_273 (fun r6 => ?_)
        obtain ⟨r6a, r6b⟩ := id r6
        refine gd_bipush hC dX4_isTyped_274 rfl ?_
        refine gd_icmp_ne hC dX4_isTyped_276 (tgt := 327) (by decide) ⟨by omega, by omega⟩ ⟨by decide, by decide⟩ (fun c7 => ?_) (fun c7 => ?_)
        · skip
          refine gd_iconst hC dX4_isTyped_327 ?_
          exact gd_ireturn hC hr (zz_nb (by omega)) hlk dX4_isTyped_328 (by decide) ⟨_, ⟨by decide, by decide⟩, rfl, (by first | rfl | ((repeat' split) <;> first | rfl | omega)), (by unfold zz_mty; omega), (zz_mty_01 _ _ _)⟩
        · skip
          refine gd_aload_n hC dX4_isTyped_279 rfl (j := 0) rfl ?_
          refine gd_getR hC w4 hK (ci := 4) rfl (by decide) rfl 1 (by decide) (j := 78) rfl f7 rfl dX4_isTyped_280 ?_
          refine gd_iconst hC dX4_isTyped_283 ?_
          refine gd_iald hC hK (j := 2) rfl (by decide) rfl (by omega) (by decide) dX4_isTyped_284 (fun r8 => ?_)
          obtain ⟨r8a, r8b⟩ := id r8
          refine gd_bipush hC dX4_isTyped_285 rfl ?_
          refine gd_icmp_ne hC dX4_isTyped_287 (tgt := 327) (by decide) ⟨by omega, by omega⟩ ⟨by decide, by decide⟩ (fun c9 => ?_) (fun c9 => ?_)
          · skip
            refine gd_iconst hC dX4_isTyped_327 ?_
            exact gd_ireturn hC hr (zz_nb (by omega)) hlk dX4_isTyped_328 (by decide) ⟨_, ⟨by decide, by decide⟩, rfl, (by first | rfl | ((repeat' split) <;> first | rfl | omega)), (by unfold zz_mty; omega), (zz_mty_01 _ _ _)⟩
          · skip
            refine gd_aload_n hC dX4_isTyped_290 rfl (j := 0) rfl ?_
            refine gd_getR hC w4 hK (ci := 4) rfl (by decide) rfl 1 (by decide) (j := 78) rfl f7 rfl dX4_isTyped_291 ?_
            refine gd_iconst hC dX4_isTyped_294 ?_
            refine gd_iald hC hK (j := 3) rfl (by decide) rfl (by omega) (by decide) dX4_isTyped_295 (fun r10 => ?_)
            obtain ⟨r10a, r10b⟩ := id r10
            refine gd_bipush hC dX4_isTyped_296 rfl ?_
            refine gd_icmp_ne hC dX4_isTyped_298 (tgt := 327) (by decide) ⟨by omega, by omega⟩ ⟨by decide, by decide⟩ (fun c11 => ?_) (fun c11 => ?_)
            · skip
              refine gd_iconst hC dX4_isTyped_327 ?_
              exact gd_ireturn hC hr (zz_nb (by omega)) hlk dX4_isTyped_328 (by decide) ⟨_, ⟨by decide, by decide⟩, rfl, (by first | rfl | ((repeat' split) <;> first | rfl | omega)), (by unfold zz_mty; omega), (zz_mty_01 _ _ _)⟩
            · skip
              refine gd_aload_n hC dX4_isTyped_301 rfl (j := 0) rfl ?_
              refine gd_getR hC w4 hK (ci := 4) rfl (by decide) rfl 1 (by decide) (j := 78) rfl f7 rfl dX4_isTyped_302 ?_
              refine gd_iconst hC dX4_isTyped_305 ?_
              refine gd_iald hC hK (j := 4) rfl (by decide) rfl (by omega) (by decide) dX4_isTyped_306 (fun r12 => ?_)
              obtain ⟨r12a, r12b⟩ := id r12
              refine gd_bipush hC dX4_isTyped_307 rfl ?_
              refine gd_icmp_ne hC dX4_isTyped_309 (tgt := 327) (by decide) ⟨by omega, by omega⟩ ⟨by decide, by decide⟩ (fun c13 => ?_) (fun c13 => ?_)
              · skip
                refine gd_iconst hC dX4_isTyped_327 ?_
                exact gd_ireturn hC hr (zz_nb (by omega)) hlk dX4_isTyped_328 (by decide) ⟨_, ⟨by decide, by decide⟩, rfl, (by first | rfl | ((repeat' split) <;> first | rfl | omega)), (by unfold zz_mty; omega), (zz_mty_01 _ _ _)⟩
              · skip
                refine gd_aload_n hC dX4_isTyped_312 rfl (j := 0) rfl ?_
                refine gd_getR hC w4 hK (ci := 4) rfl (by decide) rfl 1 (by decide) (j := 78) rfl f7 rfl dX4_isTyped_313 ?_
                refine gd_iconst hC dX4_isTyped_316 ?_
                refine gd_iald hC hK (j := 5) rfl (by decide) rfl (by omega) (by decide) dX4_isTyped_317 (fun r14 => ?_)
                obtain ⟨r14a, r14b⟩ := id r14
                refine gd_bipush hC dX4_isTyped_318 rfl ?_
                refine gd_icmp_ne hC dX4_isTyped_320 (tgt := 327) (by decide) ⟨by omega, by omega⟩ ⟨by decide, by decide⟩ (fun c15 => ?_) (fun c15 => ?_)
                · skip
                  refine gd_iconst hC dX4_isTyped_327 ?_
                  exact gd_ireturn hC hr (zz_nb (by omega)) hlk dX4_isTyped_328 (by decide) ⟨_, ⟨by decide, by decide⟩, rfl, (by first | rfl | ((repeat' split) <;> first | rfl | omega)), (by unfold zz_mty; omega), (zz_mty_01 _ _ _)⟩
                · skip
                  refine gd_iconst hC dX4_isTyped_323 ?_
                  refine gd_goto hC dX4_isTyped_324 (tgt := 328) (by decide) ?_
                  exact gd_ireturn hC hr (zz_nb (by omega)) hlk dX4_isTyped_328 (by decide) ⟨_, ⟨by decide, by decide⟩, rfl, (by first | rfl | ((repeat' split) <;> first | rfl | omega)), (by unfold zz_mty; omega), (zz_mty_01 _ _ _)⟩
  · skip
    refine gd_tableIn hC dX4_isTyped_1 0 c1 ⟨by decide, by decide⟩ (by decide) (by decide) rfl (tgt := 28) (by decide) ?_
    refine gd_aload_n hC dX4_isTyped_28 rfl (j := 0) rfl ?_
    refine gd_getI hC w4 hK (ci := 4) rfl (by decide) rfl 2 (by decide) rfl f96 rfl dX4_isTyped_29 (fun r16 => ?_)
    obtain ⟨r16a, r16b⟩ := id r16
    refine gd_iconst hC dX4_isTyped_32 ?_
    refine gd_icmp_ne hC dX4_isTyped_33 (tgt := 95) (by decide) ⟨by omega, by omega⟩ ⟨by decide, by decide⟩ (fun c17 => ?_) (fun c17 => ?_)
    · skip
      refine gd_iconst hC dX4_isTyped_95 ?_
      exact gd_ireturn hC hr (zz_nb (by omega)) hlk dX4_isTyped_96 (by decide) ⟨_, ⟨by decide, by decide⟩, rfl, (by first | rfl | ((repeat' split) <;> first | rfl | omega)), (by unfold zz_mty; omega), (zz_mty_01 _ _ _)⟩
    · skip
      refine gd_aload_n hC dX4_isTyped_36 rfl (j := 0) rfl ?_
      refine gd_getR hC w4 hK (ci := 4) rfl (by decide) rfl 1 (by decide) (j := 78) rfl f7 rfl dX4_isTyped_37 ?_
      refine gd_iconst hC dX4_isTyped_40 ?_
      refine gd_iald hC hK (j := 0) rfl (by decide) rfl (by omega) (by decide) dX4_isTyped_41 (fun r18 => ?_)
      obtain ⟨r18a, r18b⟩ := id r18
      refine gd_bipush hC dX4_isTyped_42 rfl ?_
      refine gd_icmp_ne hC dX4_isTyped_44 (tgt := 95) (by decide) ⟨by omega, by omega⟩ ⟨by decide, by decide⟩ (fun c19 => ?_) (fun c19 => ?_)
      · skip
        refine gd_iconst hC dX4_isTyped_95 ?_
        exact gd_ireturn hC hr (zz_nb (by omega)) hlk dX4_isTyped_96 (by decide) ⟨_, ⟨by decide, by decide⟩, rfl, (by first | rfl | ((repeat' split) <;> first | rfl | omega)), (by unfold zz_mty; omega), (zz_mty_01 _ _ _)⟩
      · skip
        refine gd_aload_n hC dX4_isTyped_47 rfl (j := 0) rfl ?_
        refine gd_getR hC w4 hK (ci := 4) rfl (by decide) rfl 1 (by decide) (j := 78) rfl f7 rfl dX4_isTyped_48 ?_
        refine gd_iconst hC dX4_isTyped_51 ?_
        refine gd_iald hC hK (j := 1) rfl (by decide) rfl (by omega) (by decide) dX4_isTyped_52 (fun r20 => ?_)
        obtain ⟨r20a, r20b⟩ := id r20
        refine gd_bipush hC dX4_isTyped_53 rfl ?_
        refine gd_icmp_ne hC dX4_isTyped_55 (tgt := 95) (by decide) ⟨by omega, by omega⟩ ⟨by decide, by decide⟩ (fun c21 => ?_) (fun c21 => ?_)
        · skip
          refine gd_iconst hC dX4_isTyped_95 ?_
          exact gd_ireturn hC hr (zz_nb (by omega)) hlk dX4_isTyped_96 (by decide) ⟨_, ⟨by decide, by decide⟩, rfl, (by first | rfl | ((repeat' split) <;> first | rfl | omega)), (by unfold zz_mty; omega), (zz_mty_01 _ _ _)⟩
        · skip
          refine gd_aload_n hC dX4_isTyped_58 rfl (j := 0) rfl ?_
          refine gd_getR hC w4 hK (ci := 4) rfl (by decide) rfl 1 (by decide) (j := 78) rfl f7 rfl dX4_isTyped_59 ?_
          refine gd_iconst hC dX4_isTyped_62 ?_
          refine gd_iald hC hK (j := 2) rfl (by decide) rfl (by omega) (by decide) dX4_isTyped_63 (fun r22 => ?_)
          obtain ⟨r22a, r22b⟩ := id r22
          refine gd_bipush hC dX4_isTyped_64 rfl ?_
          refine gd_icmp_ne hC dX4_isTyped_66 (tgt := 95) (by decide) ⟨by omega, by omega⟩ ⟨by decide, by decide⟩ (fun c23 => ?_) (fun c23 => ?_)
          · skip
            refine gd_iconst hC dX4_isTyped_95 ?_
            exact gd_ireturn hC hr (zz_nb (by omega)) hlk dX4_isTyped_96 (by decide) ⟨_, ⟨by decide, by decide⟩, rfl, (by first | rfl | ((repeat' split) <;> first | rfl | omega)), (by unfold zz_mty; omega), (zz_mty_01 _ _ _)⟩
          · skip
            refine gd_aload_n hC dX4_isTyped_69 rfl (j := 0) rfl ?_
            refine gd_getR hC w4 hK (ci := 4) rfl (by decide) rfl 1 (by decide) (j := 78) rfl f7 rfl dX4_isTyped_70 ?_
            refine gd_iconst hC dX4_isTyped_73 ?_
            refine gd_iald hC hK (j := 3) rfl (by decide) rfl (by omega) (by decide) dX4_isTyped_74 (fun r24 => ?_)
            obtain ⟨r24a, r24b⟩ := id r24
            refine gd_bipush hC dX4_isTyped_75 rfl ?_
            refine gd_icmp_ne hC dX4_isTyped_77 (tgt := 95) (by decide) ⟨by omega, by omega⟩ ⟨by decide, by decide⟩ (fun c25 => ?_) (fun c25 => ?_)
            · skip
              refine gd_iconst hC dX4_isTyped_95 ?_
              exact gd_ireturn hC hr (zz_nb (by omega)) hlk dX4_isTyped_96 (by decide) ⟨_, ⟨by decide, by decide⟩, rfl, (by first | rfl | ((repeat' split) <;> first | rfl | omega)), (by unfold zz_mty; omega), (zz_mty_01 _ _ _)⟩
            · skip
              refine gd_aload_n hC dX4_isTyped_80 rfl (j := 0) rfl ?_
              refine gd_getR hC w4 hK (ci := 4) rfl (by decide) rfl 1 (by decide) (j := 78) rfl f7 rfl dX4_isTyped_81 ?_
              refine gd_iconst hC dX4_isTyped_84 ?_
              refine gd_iald hC hK (j := 4) rfl (by decide) rfl (by omega) (by decide) dX4_isTyped_85 (fun r26 => ?_)
              obtain ⟨r26a, r26b⟩ := id r26
              refine gd_bipush hC dX4_isTyped_86 rfl ?_
              refine gd_icmp_ne hC dX4_isTyped_88 (tgt := 95) (by decide) ⟨by omega, by omega⟩ ⟨by decide, by decide⟩ (fun c27 => ?_) (fun c27 => ?_)
              · skip
                refine gd_iconst hC dX4_isTyped_95 ?_
                exact gd_ireturn hC hr (zz_nb (by omega)) hlk dX4_isTyped_96 (by decide) ⟨_, ⟨by decide, by decide⟩, rfl, (by first | rfl | ((repeat' split) <;> first | rfl | omega)), (by unfold zz_mty; omega), (zz_mty_01 _ _ _)⟩
              · skip
                refine gd_iconst hC dX4_isTyped_91 ?_
                refine gd_goto hC dX4_isTyped_92 (tgt := 96) (by decide) ?_
                exact gd_ireturn hC hr (zz_nb (by omega)) hlk dX4_isTyped_96 (by decide) ⟨_, ⟨by decide, by decide⟩, rfl, (by first | rfl | ((repeat' split) <;> first | rfl | omega)), (by unfold zz_mty; omega), (zz_mty_01 _ _ _)⟩
  · skip
    refine gd_tableIn hC dX4_isTyped_1 1 c1 ⟨by decide, by decide⟩ (by decide) (by decide) rfl (tgt := 97) (by decide) ?_
    refine gd_aload_n hC dX4_isTyped_97 rfl (j := 0) rfl ?_
    refine gd_getI hC w4 hK (ci := 4) rfl (by decide) rfl 2 (by decide) rfl f96 rfl dX4_isTyped_98 (fun r28 => ?_)
    obtain ⟨r28a, r28b⟩ := id r28
    refine gd_bipush hC dX4_isTyped_101 rfl ?_
    refine gd_icmp_ne hC dX4_isTyped_103 (tgt := 188) (by decide) ⟨by omega, by omega⟩ ⟨by decide, by decide⟩ (fun c29 => ?_) (fun c29 => ?_)
    · skip
      refine gd_iconst hC dX4_isTyped_188 ?_
      exact gd_ireturn hC hr (zz_nb (by omega)) hlk dX4_isTyped_189 (by decide) ⟨_, ⟨by decide, by decide⟩, rfl, (by first | rfl | ((repeat' split) <;> first | rfl | omega)), (by unfold zz_mty; omega), (zz_mty_01 _ _ _)⟩
    · skip
      refine gd_aload_n hC dX4_isTyped_106 rfl (j := 0) rfl ?_
      refine gd_getR hC w4 hK (ci := 4) rfl (by decide) rfl 1 (by decide) (j := 78) rfl f7 rfl dX4_isTyped_107 ?_
      refine gd_iconst hC dX4_isTyped_110 ?_
      refine gd_iald hC hK (j := 0) rfl (by decide) rfl (by omega) (by decide) dX4_isTyped_111 (fun r30 => ?_)
      obtain ⟨r30a, r30b⟩ := id r30
      refine gd_bipush hC dX4_isTyped_112 rfl ?_
      refine gd_icmp_ne hC dX4_isTyped_114 (tgt := 188) (by decide) ⟨by omega, by omega⟩ ⟨by decide, by decide⟩ (fun c31 => ?_) (fun c31 => ?_)
      · skip
        refine gd_iconst hC dX4_isTyped_188 ?_
        exact gd_ireturn hC hr (zz_nb (by omega)) hlk dX4_isTyped_189 (by decide) ⟨_, ⟨by decide, by decide⟩, rfl, (by first | rfl | ((repeat' split) <;> first | rfl | omega)), (by unfold zz_mty; omega), (zz_mty_01 _ _ _)⟩
      · skip
        refine gd_aload_n hC dX4_isTyped_117 rfl (j := 0) rfl ?_
        refine gd_getR hC w4 hK (ci := 4) rfl (by decide) rfl 1 (by decide) (j := 78) rfl f7 rfl dX4_isTyped_118 ?_
        refine gd_iconst hC dX4_isTyped_121 ?_
        refine gd_iald hC hK (j := 1) rfl (by decide) rfl (by omega) (by decide) dX4_isTyped_122 (fun r32 => ?_)
        obtain ⟨r32a, r32b⟩ := id r32
        refine gd_bipush hC dX4_isTyped_123 rfl ?_
        refine gd_icmp_ne hC dX4_isTyped_125 (tgt := 188) (by decide) ⟨by omega, by omega⟩ ⟨by decide, by decide⟩ (fun c33 => ?_) (fun c33 => ?_)
        · skip
          refine gd_iconst hC dX4_isTyped_188 ?_
          exact gd_ireturn hC hr (zz_nb (by omega)) hlk dX4_isTyped_189 (by decide) ⟨_, ⟨by decide, by decide⟩, rfl, (by first | rfl | ((repeat' split) <;> first | rfl | omega)), (by unfold zz_mty; omega), (zz_mty_01 _ _ _)⟩
        · skip
          refine gd_aload_n hC dX4_isTyped_128 rfl (j := 0) rfl ?_
          refine gd_getR hC w4 hK (ci := 4) rfl (by decide) rfl 1 (by decide) (j := 78) rfl f7 rfl dX4_isTyped_129 ?_
          refine gd_iconst hC dX4_isTyped_132 ?_
          refine gd_iald hC hK (j := 2) rfl (by decide) rfl (by omega) (by decide) dX4_isTyped_133 (fun r34 => ?_)
          obtain ⟨r34a, r34b⟩ := id r34
          refine gd_bipush hC dX4_isTyped_134 rfl ?_
          refine gd_icmp_ne hC dX4_isTyped_136 (tgt := 188) (by decide) ⟨by omega, by omega⟩ ⟨by decide, by decide⟩ (fun c35 => ?_) (fun c35 => ?_)
          · skip
            refine gd_iconst hC dX4_isTyped_188 ?_
            exact gd_ireturn hC hr (zz_nb (by omega)) hlk dX4_isTyped_189 (by decide) ⟨_, ⟨by decide, by decide⟩, rfl, (by first | rfl | ((repeat' split) <;> first | rfl | omega)), (by unfold zz_mty; omega), (zz_mty_01 _ _ _)⟩
          · skip
            refine gd_aload_n hC dX4_isTyped_139 rfl (j := 0) rfl ?_
            refine gd_getR hC w4 hK (ci := 4) rfl (by decide) rfl 1 (by decide) (j := 78) rfl f7 rfl dX4_isTyped_140 ?_
            refine gd_iconst hC dX4_isTyped_143 ?_
            refine gd_iald hC hK (j := 3) rfl (by decide) rfl (by omega) (by decide) dX4_isTyped_144 (fun r36 => ?_)
            obtain ⟨r36a, r36b⟩ := id r36
            refine gd_bipush hC dX4_isTyped_145 rfl ?_
            refine gd_icmp_ne hC dX4_isTyped_147 (tgt := 188) (by decide) ⟨by omega, by omega⟩ ⟨by decide, by decide⟩ (fun c37 => ?_) (fun c37 => ?_)
            · skip
              refine gd_iconst hC dX4_isTyped_188 ?_
              exact gd_ireturn hC hr (zz_nb (by omega)) hlk dX4_isTyped_189 (by decide) ⟨_, ⟨by decide, by decide⟩, rfl, (by first | rfl | ((repeat' split) <;> first | rfl | omega)), (by unfold zz_mty; omega), (zz_mty_01 _ _ _)⟩
            · skip
              refine gd_aload_n hC dX4_isTyped_150 rfl (j := 0) rfl ?_
              refine gd_getR hC w4 hK (ci := 4) rfl (by decide) rfl 1 (by decide) (j := 78) rfl f7 rfl dX4_isTyped_151 ?_
              refine gd_iconst hC dX4_isTyped_154 ?_
              refine gd_iald hC hK (j := 4) rfl (by decide) rfl (by omega) (by decide) dX4_isTyped_155 (fun r38 => ?_)
              obtain ⟨r38a, r38b⟩ := id r38
              refine gd_bipush hC dX4_isTyped_156 rfl ?_
              refine gd_icmp_ne hC dX4_isTyped_158 (tgt := 188) (by decide) ⟨by omega, by omega⟩ ⟨by decide, by decide⟩ (fun c39 => ?_) (fun c39 => ?_)
              · skip
                refine gd_iconst hC dX4_isTyped_188 ?_
                exact gd_ireturn hC hr (zz_nb (by omega)) hlk dX4_isTyped_189 (by decide) ⟨_, ⟨by decide, by decide⟩, rfl, (by first | rfl | ((repeat' split) <;> first | rfl | omega)), (by unfold zz_mty; omega), (zz_mty_01 _ _ _)⟩
              · skip
                refine gd_aload_n hC dX4_isTyped_161 rfl (j := 0) rfl ?_
                refine gd_getR hC w4 hK (ci := 4) rfl (by decide) rfl 1 (by decide) (j := 78) rfl f7 rfl dX4_isTyped_162 ?_
                refine gd_iconst hC dX4_isTyped_165 ?_
                refine gd_iald hC hK (j := 5) rfl (by decide) rfl (by omega) (by decide) dX4_isTyped_166 (fun r40 => ?_)
                obtain ⟨r40a, r40b⟩ := id r40
                refine gd_bipush hC dX4_isTyped_167 rfl ?_
                refine gd_icmp_ne hC dX4_isTyped_169 (tgt := 188) (by decide) ⟨by omega, by omega⟩ ⟨by decide, by decide⟩ (fun c41 => ?_) (fun c41 => ?_)
                · skip
                  refine gd_iconst hC dX4_isTyped_188 ?_
                  exact gd_ireturn hC hr (zz_nb (by omega)) hlk dX4_isTyped_189 (by decide) ⟨_, ⟨by decide, by decide⟩, rfl, (by first | rfl | ((repeat' split) <;> first | rfl | omega)), (by unfold zz_mty; omega), (zz_mty_01 _ _ _)⟩
                · skip
                  refine gd_aload_n hC dX4_isTyped_172 rfl (j := 0) rfl ?_
                  refine gd_getR hC w4 hK (ci := 4) rfl (by decide) rfl 1 (by decide) (j := 78) rfl f7 rfl dX4_isTyped_173 ?_
                  refine gd_bipush hC dX4_isTyped_176 rfl ?_
                  refine gd_iald hC hK (j := 6) rfl (by decide) rfl (by omega) (by decide) dX4_isTyped_178 (fun r42 => ?_)
                  obtain ⟨r42a, r42b⟩ := id r42
                  refine gd_bipush hC dX4_isTyped_179 rfl ?_
                  refine gd_icmp_ne hC dX4_isTyped_181 (tgt := 188) (by decide) ⟨by omega, by omega⟩ ⟨by decide, by decide⟩ (fun c43 => ?_) (fun c43 => ?_)
                  · skip
                    refine gd_iconst hC dX4_isTyped_188 ?_
                    exact gd_ireturn hC hr (zz_nb (by omega)) hlk dX4_isTyped_189 (by decide) ⟨_, ⟨by decide, by decide⟩, rfl, (by first | rfl | ((repeat' split) <;> first | rfl | omega)), (by unfold zz_mty; omega), (zz_mty_01 _ _ _)⟩
                  · skip
                    refine gd_iconst hC dX4_isTyped_184 ?_
                    refine gd_goto hC dX4_isTyped_185 (tgt := 189) (by decide) ?_
                    exact gd_ireturn hC hr (zz_nb (by omega)) hlk dX4_isTyped_189 (by decide) ⟨_, ⟨by decide, by decide⟩, rfl, (by first | rfl | ((repeat' split) <;> first | rfl | omega)), (by unfold zz_mty; omega), (zz_mty_01 _ _ _)⟩
  · skip
    refine gd_tableIn hC dX4_isTyped_1 2 c1 ⟨by decide, by decide⟩ (by decide) (by decide) rfl (tgt := 190) (by decide) ?_
    refine gd_aload_n hC dX4_isTyped_190 rfl (j := 0) rfl ?_
    refine gd_getI hC w4 hK (ci := 4) rfl (by decide) rfl 2 (by decide) rfl f96 rfl dX4_isTyped_191 (fun r44 => ?_)
    obtain ⟨r44a, r44b⟩ := id r44
    refine gd_iconst hC dX4_isTyped_194 ?_
    refine gd_icmp_ne hC dX4_isTyped_195 (tgt := 246) (by decide) ⟨by omega, by omega⟩ ⟨by decide, by decide⟩ (fun c45 => ?_) (fun c45 => ?_)
    · skip
      refine gd_iconst hC dX4_isTyped_246 ?_
      exact gd_ireturn hC hr (zz_nb (by omega)) hlk dX4_isTyped_247 (by decide) ⟨_, ⟨by decide, by decide⟩, rfl, (by first | rfl | ((repeat' split) <;> first | rfl | omega)), (by unfold zz_mty; omega), (zz_mty_01 _ _ _)⟩
    · skip
      refine gd_aload_n hC dX4_isTyped_198 rfl (j := 0) rfl ?_
      refine gd_getR hC w4 hK (ci := 4) rfl (by decide) rfl 1 (by decide) (j := 78) rfl f7 rfl dX4_isTyped_199 ?_
      refine gd_iconst hC dX4_isTyped_202 ?_
      refine gd_iald hC hK (j := 0) rfl (by decide) rfl (by omega) (by decide) dX4_isTyped_203 (fun r46 => ?_)
      obtain ⟨r46a, r46b⟩ := id r46
      refine gd_bipush hC dX4_isTyped_204 rfl ?_
      refine gd_icmp_ne hC dX4_isTyped_206 (tgt := 246) (by decide) ⟨by omega, by omega⟩ ⟨by decide, by decide⟩ (fun c47 => ?_) (fun c47 => ?_)
      · skip
        refine gd_iconst hC dX4_isTyped_246 ?_
        exact gd_ireturn hC hr (zz_nb (by omega)) hlk dX4_isTyped_247 (by decide) ⟨_, ⟨by decide, by decide⟩, rfl, (by first | rfl | ((repeat' split) <;> first | rfl | omega)), (by unfold zz_mty; omega), (zz_mty_01 _ _ _)⟩
      · skip
        refine gd_aload_n hC dX4_isTyped_209 rfl (j := 0) rfl ?_
        refine gd_getR hC w4 hK (ci := 4) rfl (by decide) rfl 1 (by decide) (j := 78) rfl f7 rfl dX4_isTyped_210 ?_
        refine gd_iconst hC dX4_isTyped_213 ?_
        refine gd_iald hC hK (j := 1) rfl (by decide) rfl (by omega) (by decide) dX4_isTyped_214 (fun r48 => ?_)
        obtain ⟨r48a, r48b⟩ := id r48
        refine gd_bipush hC dX4_isTyped_215 rfl ?_
        refine gd_icmp_ne hC dX4_isTyped_217 (tgt := 246) (by decide) ⟨by omega, by omega⟩ ⟨by decide, by decide⟩ (fun c49 => ?_) (fun c49 => ?_)
        · skip
          refine gd_iconst hC dX4_isTyped_246 ?_
          exact gd_ireturn hC hr (zz_nb (by omega)) hlk dX4_isTyped_247 (by decide) ⟨_, ⟨by decide, by decide⟩, rfl, (by first | rfl | ((repeat' split) <;> first | rfl | omega)), (by unfold zz_mty; omega), (zz_mty_01 _ _ _)⟩
        · skip
          refine gd_aload_n hC dX4_isTyped_220 rfl (j := 0) rfl ?_
          refine gd_getR hC w4 hK (ci := 4) rfl (by decide) rfl 1 (by decide) (j := 78) rfl f7 rfl dX4_isTyped_221 ?_
          refine gd_iconst hC dX4_isTyped_224 ?_
          refine gd_iald hC hK (j := 2) rfl (by decide) rfl (by omega) (by decide) dX4_isTyped_225 (fun r50 => ?_)
          obtain ⟨r50a, r50b⟩ := id r50
          refine gd_bipush hC dX4_isTyped_226 rfl ?_
          refine gd_icmp_ne hC dX4_isTyped_228 (tgt := 246) (by decide) ⟨by omega, by omega⟩ ⟨by decide, by decide⟩ (fun c51 => ?_) (fun c51 => ?_)
          · skip
            refine gd_iconst hC dX4_isTyped_246 ?_
            exact gd_ireturn hC hr (zz_nb (by omega)) hlk dX4_isTyped_247 (by decide) ⟨_, ⟨by decide, by decide⟩, rfl, (by first | rfl | ((repeat' split) <;> first | rfl | omega)), (by unfold zz_mty; omega), (zz_mty_01 _ _ _)⟩
          · skip
            refine gd_aload_n hC dX4_isTyped_231 rfl (j := 0) rfl ?_
            refine gd_getR hC w4 hK (ci := 4) rfl (by decide) rfl 1 (by decide) (j := 78) rfl f7 rfl dX4_isTyped_232 ?_
            refine gd_iconst hC dX4_isTyped_235 ?_
            refine gd_iald hC hK (j := 3) rfl (by decide) rfl (by omega) (by decide) dX4_isTyped_236 (fun r52 => ?_)
            obtain ⟨r52a, r52b⟩ := id r52
            refine gd_bipush hC dX4_isTyped_237 rfl ?_
            refine gd_icmp_ne hC dX4_isTyped_239 (tgt := 246) (by decide) ⟨by omega, by omega⟩ ⟨by decide, by decide⟩ (fun c53 => ?_) (fun c53 => ?_)
            · skip
              refine gd_iconst hC dX4_isTyped_246 ?_
              exact gd_ireturn hC hr (zz_nb (by omega)) hlk dX4_isTyped_247 (by decide) ⟨_, ⟨by decide, by decide⟩, rfl, (by first | rfl | ((repeat' split) <;> first | rfl | omega)), (by unfold zz_mty; omega), (zz_mty_01 _ _ _)⟩
            · skip
              refine gd_iconst hC dX4_isTyped_242 ?_
              refine gd_goto hC dX4_isTyped_243 (tgt := 247) (by decide) ?_
              exact gd_ireturn hC hr (zz_nb (by omega)) hlk dX4_isTyped_247 (by decide) ⟨_, ⟨by decide, by decide⟩, rfl, (by first | rfl | ((repeat' split) <;> first | rfl | omega)), (by unfold zz_mty; omega), (zz_mty_01 _ _ _)⟩

abbrev rm_X4_whoseOn : Room := { frames := 0, cells := 0, slots := 0, locals := 0 }
set_option maxHeartbeats 4000000 in
set_option maxRecDepth 100000 in
theorem c_X4_whoseOn (l : Launch) (hl9 : l.stackTraces = false) (N0 : Nat) (G : zz_G) (Y : zz_Y) (a : Nat → Nat) (S : zz_S) (x d : Int) (hx : 0 ≤ x ∧ x ≤ 9) (hd : 0 ≤ d ∧ d ≤ 5000) (iaf : zz_rr S 80 50010 0 10) : CtR l yX4_whoseOn wsX4_whoseOn rm_X4_whoseOn 0 [.ref (a 77), zz_v x, zz_v d] N0 G Y a S (zz_mwo (S 80) d 10 x) (S) (0 ≤ zz_mwo (S 80) d 10 x ∧ zz_mwo (S 80) d 10 x ≤ 9) (False) (False) (False) := by
  refine Ct_.of (cc := cX4_whoseOn) (maxL := 5) (ret := (some .int)) (by decide) rfl (Nat.le_of_ble_eq_true rfl) ?_
  intro p e s m args below meth c hC hts hr hlk hex hF
  have hK := hF.2.1
  have w4 : ∀ w ∈ u_ws RX4 TX4 27, w.before args s = true := fun w h => hts w (List.mem_cons_of_mem _ (List.mem_append_right _ h))
  have f17 : (Cond.fieldLink RX4 17 "GrievancehallModel" "actsFor" "[I").before args s = true := hts _ (by decide +kernel)
  refine gd_lveq (lv' := [(0, .ref (a 77)), (1, zz_v x), (2, zz_v d)]) rfl ?_
  have hwr := zz_mwo_rng hd iaf 10 x hx
  refine gd_iload_n hC dX4_whoseOn_0 rfl (j := 1) rfl ?_
  refine gd_istore_n hC dX4_whoseOn_1 rfl (by decide) (lv' := [(3, zz_v x), (0, .ref (a 77)), (1, zz_v x), (2, zz_v d)]) rfl ?_
  refine gd_iconst hC dX4_whoseOn_2 ?_
  refine gd_istore hC dX4_whoseOn_3 (by decide) (lv' := [(4, zz_v 0), (3, zz_v x), (0, .ref (a 77)), (1, zz_v x), (2, zz_v d)]) rfl ?_
  refine gd_sub [2, 4, 1, 0] (lv' := [(0, .ref (a 77)), (2, zz_v d), (3, zz_v x), (4, zz_v 0)]) rfl ?_
  refine gd_loop (σ := Nat × Int) (μ := fun vz => vz.1) (I := fun vz => (vz.1 ≤ 10) ∧ (0 ≤ vz.2 ∧ vz.2 ≤ 9) ∧ (zz_mwo (S 80) d 10 x = zz_mwo (S 80) d vz.1 vz.2)) (Sf := fun vz => S) (lf := fun vz => [(0, .ref (a 77)), (2, zz_v d), (3, zz_v vz.2), (4, zz_v (10 - (vz.1 : Int)))]) (10, x) (⟨by omega, hx, rfl⟩) rfl rfl (fun ⟨m, o⟩ hI ih => ?_)
  obtain ⟨hI0, hI1, hI2⟩ : (m ≤ 10) ∧ (0 ≤ o ∧ o ≤ 9) ∧ (zz_mwo (S 80) d 10 x = zz_mwo (S 80) d m o) := hI
  refine gd_lveq (lv' := [(0, .ref (a 77)), (2, zz_v d), (3, zz_v o), (4, zz_v (10 - (m : Int)))]) rfl ?_
  refine gd_eq (S' := S) rfl ?_
  have haj := iaf (5001 * o + d).toNat (by omega)
  refine gd_iload hC dX4_whoseOn_5 (j := 3) rfl ?_
  refine gd_bipush hC dX4_whoseOn_7 rfl ?_
  refine gd_icmp_ge hC dX4_whoseOn_9 (tgt := 48) (by decide) ⟨by omega, by omega⟩ ⟨by decide, by decide⟩ (fun c1 => ?_) (fun c1 => ?_)
  · skip
    refine gd_iload_n hC dX4_whoseOn_48 rfl (j := 2) rfl ?_
    exact gd_ireturn hC hr rfl hlk dX4_whoseOn_49 (by decide) ⟨_, ⟨by omega, by omega⟩, rfl, (by first | rfl | ((repeat' split) <;> first | rfl | omega)), (by first | (rw [hI2, show m = 0 by omega]; rfl) | (rw [hI2]; obtain ⟨n, rfl⟩ : ∃ n, m = n + 1 := ⟨m - 1, by omega⟩; rw [zz_mwo, if_pos (by omega)])), (by omega)⟩
  · skip
    refine gd_aload_n hC dX4_whoseOn_12 rfl (j := 0) rfl ?_
    refine gd_getR hC w4 hK (ci := 4) rfl (by decide) rfl 5 (by decide) (j := 80) rfl f17 rfl dX4_whoseOn_13 ?_
    refine gd_sipush hC dX4_whoseOn_16 rfl ?_
    refine gd_iload_n hC dX4_whoseOn_19 rfl (j := 2) rfl ?_
    refine gd_imul hC dX4_whoseOn_20 ?_
    refine gd_iload_n hC dX4_whoseOn_21 rfl (j := 1) rfl ?_
    refine gd_iadd hC dX4_whoseOn_22 ?_
    refine gd_iald hC hK (j := ((5001 * o) + d).toNat) rfl (by decide) (by omega) (by omega) (by decide) dX4_whoseOn_23 (fun r2 => ?_)
    obtain ⟨r2a, r2b⟩ := id r2
    refine gd_if_le hC dX4_whoseOn_24 (tgt := 48) (by decide) ⟨by omega, by omega⟩ (fun c3 => ?_) (fun c3 => ?_)
    · skip
      refine gd_iload_n hC dX4_whoseOn_48 rfl (j := 2) rfl ?_
      exact gd_ireturn hC hr rfl hlk dX4_whoseOn_49 (by decide) ⟨_, ⟨by omega, by omega⟩, rfl, (by first | rfl | ((repeat' split) <;> first | rfl | omega)), (by first | (rw [hI2, show m = 0 by omega]; rfl) | (rw [hI2]; obtain ⟨n, rfl⟩ : ∃ n, m = n + 1 := ⟨m - 1, by omega⟩; rw [zz_mwo, if_pos (by omega)])), (by omega)⟩
    · skip
      refine gd_aload_n hC dX4_whoseOn_27 rfl (j := 0) rfl ?_
      refine gd_getR hC w4 hK (ci := 4) rfl (by decide) rfl 5 (by decide) (j := 80) rfl f17 rfl dX4_whoseOn_28 ?_
      refine gd_sipush hC dX4_whoseOn_31 rfl ?_
      refine gd_iload_n hC dX4_whoseOn_34 rfl (j := 2) rfl ?_
      refine gd_imul hC dX4_whoseOn_35 ?_
      refine gd_iload_n hC dX4_whoseOn_36 rfl (j := 1) rfl ?_
      refine gd_iadd hC dX4_whoseOn_37 ?_
      refine gd_iald hC hK (j := ((5001 * o) + d).toNat) rfl (by decide) (by omega) (by omega) (by decide) dX4_whoseOn_38 (fun r4 => ?_)
      obtain ⟨r4a, r4b⟩ := id r4
      refine gd_iconst hC dX4_whoseOn_39 ?_
      refine gd_isub hC dX4_whoseOn_40 ?_
      refine gd_istore_n hC dX4_whoseOn_41 rfl (by decide) (lv' := [(3, zz_v ((S 80 (((5001 * o) + d).toNat)) - 1)), (0, .ref (a 77)), (2, zz_v d), (4, zz_v (10 - (m : Int)))]) rfl ?_
      refine gd_iinc hC dX4_whoseOn_42 (j := 3) rfl (y := 10 - (m : Int) + 1) (by omega) (by decide) (lv' := [(4, zz_v (10 - (m : Int) + 1)), (3, zz_v ((S 80 (((5001 * o) + d).toNat)) - 1)), (0, .ref (a 77)), (2, zz_v d)]) rfl ?_
      refine gd_goto hC dX4_whoseOn_45 (tgt := 5) (by decide) ?_
      refine gd_sub [2, 3, 1, 0] (lv' := [(0, .ref (a 77)), (2, zz_v d), (3, zz_v ((S 80 (((5001 * o) + d).toNat)) - 1)), (4, zz_v (10 - (m : Int) + 1))]) rfl ?_
      refine gd_lveq (lv' := [(0, .ref (a 77)), (2, zz_v d), (3, zz_v (S 80 (5001 * o + d).toNat - 1)), (4, zz_v (10 - (((m - 1) : Nat) : Int)))]) (by rw [show 10 - (m : Int) + 1 = 10 - ((m - 1 : Nat) : Int) by omega]) ?_
      exact ih ((m - 1), (S 80 (5001 * o + d).toNat - 1)) ⟨by omega, by omega, by rw [hI2]; obtain ⟨n, rfl⟩ : ∃ n, m = n + 1 := ⟨m - 1, by omega⟩; rw [zz_mwo, if_neg (by omega)]; rfl⟩ (show (m - 1) < m by omega)

abbrev rm_X4_areLike : Room := { frames := 0, cells := 0, slots := 0, locals := 0 }
set_option maxHeartbeats 4000000 in
set_option maxRecDepth 100000 in
theorem c_X4_areLike (l : Launch) (hl9 : l.stackTraces = false) (N0 : Nat) (G : zz_G) (Y : zz_Y) (a : Nat → Nat) (S : zz_S) (x y : Int) (i j : Nat) (hi : x = (i : Int)) (hj : y = (j : Int)) (hi2 : i < 24) (hj2 : j < 24) : CtR l yX4_areLike wsX4_areLike rm_X4_areLike 0 [.ref (a 77), zz_v x, zz_v y] N0 G Y a S (zz_mli (S 83) (S 82) i j) (S) (zz_mli (S 83) (S 82) i j = 0 ∨ zz_mli (S 83) (S 82) i j = 1) (False) (False) (False) := by
  refine Ct_.of (cc := cX4_areLike) (maxL := 3) (ret := (some .boolean)) (by decide) rfl (Nat.le_of_ble_eq_true rfl) ?_
  intro p e s m args below meth c hC hts hr hlk hex hF
  have hK := hF.2.1
  have w4 : ∀ w ∈ u_ws RX4 TX4 27, w.before args s = true := fun w h => hts w (List.mem_cons_of_mem _ (List.mem_append_right _ h))
  have f23 : (Cond.fieldLink RX4 23 "GrievancehallModel" "whoseAct" "[I").before args s = true := hts _ (by decide +kernel)
  have f26 : (Cond.fieldLink RX4 26 "GrievancehallModel" "kind" "[I").before args s = true := hts _ (by decide +kernel)
  refine gd_lveq (lv' := [(0, .ref (a 77)), (1, zz_v x), (2, zz_v y)]) rfl ?_
  refine gd_iload_n hC dX4_areLike_0 rfl (j := 1) rfl ?_
  refine gd_iload_n hC dX4_areLike_1 rfl (j := 2) rfl ?_
  refine gd_icmp_eq hC dX4_areLike_2 (tgt := 39) (by decide) ⟨by omega, by omega⟩ ⟨by omega, by omega⟩ (fun c1 => ?_) (fun c1 => ?_)
  · skip
    refine gd_iconst hC dX4_areLike_39 ?_
    exact gd_ireturn hC hr (zz_nb (by omega)) hlk dX4_areLike_40 (by decide) ⟨_, ⟨by decide, by decide⟩, rfl, (by first | rfl | ((repeat' split) <;> first | rfl | omega)), (by unfold zz_mli; omega), (zz_mli_01 _ _ _ _)⟩
  · skip
    refine gd_aload_n hC dX4_areLike_5 rfl (j := 0) rfl ?_
    refine gd_getR hC w4 hK (ci := 4) rfl (by decide) rfl 9 (by decide) (j := 83) rfl f26 rfl dX4_areLike_6 ?_
    refine gd_iload_n hC dX4_areLike_9 rfl (j := 1) rfl ?_
    refine gd_iald hC hK (j := i) rfl (by decide) hi (by omega) (by decide) dX4_areLike_10 (fun r2 => ?_)
    obtain ⟨r2a, r2b⟩ := id r2
    refine gd_aload_n hC dX4_areLike_11 rfl (j := 0) rfl ?_
    refine gd_getR hC w4 hK (ci := 4) rfl (by decide) rfl 9 (by decide) (j := 83) rfl f26 rfl dX4_areLike_12 ?_
    refine gd_iload_n hC dX4_areLike_15 rfl (j := 2) rfl ?_
    refine gd_iald hC hK (j := j) rfl (by decide) hj (by omega) (by decide) dX4_areLike_16 (fun r3 => ?_)
    obtain ⟨r3a, r3b⟩ := id r3
    refine gd_icmp_ne hC dX4_areLike_17 (tgt := 39) (by decide) ⟨by omega, by omega⟩ ⟨by omega, by omega⟩ (fun c4 => ?_) (fun c4 => ?_)
    · skip
      refine gd_iconst hC dX4_areLike_39 ?_
      exact gd_ireturn hC hr (zz_nb (by omega)) hlk dX4_areLike_40 (by decide) ⟨_, ⟨by decide, by decide⟩, rfl, (by first | rfl | ((repeat' split) <;> first | rfl | omega)), (by unfold zz_mli; omega), (zz_mli_01 _ _ _ _)⟩
    · skip
      refine gd_aload_n hC dX4_areLike_20 rfl (j := 0) rfl ?_
      refine gd_getR hC w4 hK (ci := 4) rfl (by decide) rfl 8 (by decide) (j := 82) rfl f23 rfl dX4_areLike_21 ?_
      refine gd_iload_n hC dX4_areLike_24 rfl (j := 1) rfl ?_
      refine gd_iald hC hK (j := i) rfl (by decide) hi (by omega) (by decide) dX4_areLike_25 (fun r5 => ?_)
      obtain ⟨r5a, r5b⟩ := id r5
      refine gd_aload_n hC dX4_areLike_26 rfl (j := 0) rfl ?_
      refine gd_getR hC w4 hK (ci := 4) rfl (by decide) rfl 8 (by decide) (j := 82) rfl f23 rfl dX4_areLike_27 ?_
      refine gd_iload_n hC dX4_areLike_30 rfl (j := 2) rfl ?_
      refine gd_iald hC hK (j := j) rfl (by decide) hj (by omega) (by decide) dX4_areLike_31 (fun r6 => ?_)
      obtain ⟨r6a, r6b⟩ := id r6
      refine gd_icmp_ne hC dX4_areLike_32 (tgt := 39) (by decide) ⟨by omega, by omega⟩ ⟨by omega, by omega⟩ (fun c7 => ?_) (fun c7 => ?_)
      · skip
        refine gd_iconst hC dX4_areLike_39 ?_
        exact gd_ireturn hC hr (zz_nb (by omega)) hlk dX4_areLike_40 (by decide) ⟨_, ⟨by decide, by decide⟩, rfl, (by first | rfl | ((repeat' split) <;> first | rfl | omega)), (by unfold zz_mli; omega), (zz_mli_01 _ _ _ _)⟩
      · skip
        refine gd_iconst hC dX4_areLike_35 ?_
        refine gd_goto hC dX4_areLike_36 (tgt := 40) (by decide) ?_
        exact gd_ireturn hC hr (zz_nb (by omega)) hlk dX4_areLike_40 (by decide) ⟨_, ⟨by decide, by decide⟩, rfl, (by first | rfl | ((repeat' split) <;> first | rfl | omega)), (by unfold zz_mli; omega), (zz_mli_01 _ _ _ _)⟩

abbrev rm_X4_likesOf : Room := { frames := 1, cells := 0, slots := 0, locals := 22 }
set_option maxHeartbeats 4000000 in
set_option maxRecDepth 100000 in
theorem c_X4_likesOf (l : Launch) (hl9 : l.stackTraces = false) (N0 : Nat) (G : zz_G) (Y : zz_Y) (a : Nat → Nat) (S : zz_S) (x : Int) (i : Nat) (hi : x = (i : Int)) (hi2 : i < 24) (hn : 0 ≤ S 77 7 ∧ S 77 7 ≤ 24) : CtR l yX4_likesOf wsX4_likesOf rm_X4_likesOf 0 [.ref (a 77), zz_v x] N0 G Y a S (zz_mln (S 83) (S 82) i (S 77 7).toNat) (S) (0 ≤ zz_mln (S 83) (S 82) i (S 77 7).toNat ∧ zz_mln (S 83) (S 82) i (S 77 7).toNat ≤ 24) (False) (False) (False) := by
  refine Ct_.of (cc := cX4_likesOf) (maxL := 4) (ret := (some .int)) (by decide) rfl (Nat.le_of_ble_eq_true rfl) ?_
  intro p e s m args below meth c hC hts hr hlk hex hF
  have hK := hF.2.1
  have w4 : ∀ w ∈ u_ws RX4 TX4 27, w.before args s = true := fun w h => hts w (List.mem_cons_of_mem _ (List.mem_append_right _ h))
  have f86 : (Cond.fieldLink RX4 86 "GrievancehallModel" "acts" "I").before args s = true := hts _ (by decide +kernel)
  refine gd_lveq (lv' := [(0, .ref (a 77)), (1, zz_v x)]) rfl ?_
  refine gd_iconst hC dX4_likesOf_0 ?_
  refine gd_istore_n hC dX4_likesOf_1 rfl (by decide) (lv' := [(2, zz_v 0), (0, .ref (a 77)), (1, zz_v x)]) rfl ?_
  refine gd_iconst hC dX4_likesOf_2 ?_
  refine gd_istore_n hC dX4_likesOf_3 rfl (by decide) (lv' := [(3, zz_v 0), (2, zz_v 0), (0, .ref (a 77)), (1, zz_v x)]) rfl ?_
  refine gd_sub [2, 3, 1, 0] (lv' := [(0, .ref (a 77)), (1, zz_v x), (2, zz_v 0), (3, zz_v 0)]) rfl ?_
  refine gd_loop (σ := Nat) (μ := fun vz => (S 77 7).toNat - vz) (I := fun vz => (vz ≤ (S 77 7).toNat)) (Sf := fun vz => S) (lf := fun vz => [(0, .ref (a 77)), (1, zz_v x), (2, zz_v (zz_mln (S 83) (S 82) i vz)), (3, zz_v (vz : Int))]) 0 (by omega) rfl rfl (fun j hI ih => ?_)
  have hI0 : j ≤ (S 77 7).toNat := hI
  refine gd_lveq (lv' := [(0, .ref (a 77)), (1, zz_v x), (2, zz_v (zz_mln (S 83) (S 82) i j)), (3, zz_v (j : Int))]) rfl ?_
  refine gd_eq (S' := S) rfl ?_
  have hrg := zz_mln_rng (S 83) (S 82) i j
  refine gd_iload_n hC dX4_likesOf_4 rfl (j := 3) rfl ?_
  refine gd_aload_n hC dX4_likesOf_5 rfl (j := 0) rfl ?_
  refine gd_getI hC w4 hK (ci := 4) rfl (by decide) rfl 7 (by decide) rfl f86 rfl dX4_likesOf_6 (fun r1 => ?_)
  obtain ⟨r1a, r1b⟩ := id r1
  refine gd_icmp_ge hC dX4_likesOf_9 (tgt := 35) (by decide) ⟨by omega, by omega⟩ ⟨by omega, by omega⟩ (fun c2 => ?_) (fun c2 => ?_)
  · skip
    refine gd_iload_n hC dX4_likesOf_35 rfl (j := 2) rfl ?_
    exact gd_ireturn hC hr rfl hlk dX4_likesOf_36 (by decide) ⟨_, ⟨by omega, by omega⟩, rfl, (by first | rfl | ((repeat' split) <;> first | rfl | omega)), (by rw [show (S 77 7).toNat = j by omega]), (by rw [show (S 77 7).toNat = j by omega]; omega)⟩
  · skip
    refine gd_iload_n hC dX4_likesOf_12 rfl (j := 2) rfl ?_
    refine gd_aload_n hC dX4_likesOf_13 rfl (j := 0) rfl ?_
    refine gd_iload_n hC dX4_likesOf_14 rfl (j := 1) rfl ?_
    refine gd_iload_n hC dX4_likesOf_15 rfl (j := 3) rfl ?_
    refine gd_callVR (As := [zz_v x, zz_v (j : Int)]) (rest := [zz_v (zz_mln (S 83) (S 82) i j)]) hC hF (fun hR => c_X4_areLike l hl9 N0 G Y a (S) x (j : Int) i j hi rfl (by omega) (by omega)) (cwV 2 hts gX4_likesOf_X4_areLike rfl rfl rfl (by decide +kernel) ⟨by decide, by decide⟩) rfl (by decide) (ci := 4) rfl rfl rfl rfl (Nat.le_of_ble_eq_true rfl) dX4_likesOf_16 ⟨by decide, by decide⟩ (fun E hx => zz_xn hx) (fun q3 q3r => ?_)
    obtain ⟨q3a, q3b⟩ := id q3r
    refine gd_if_eq hC dX4_likesOf_19 (tgt := 26) (by decide) ⟨by omega, by omega⟩ (fun c4 => ?_) (fun c4 => ?_)
    · skip
      refine gd_iconst hC dX4_likesOf_26 ?_
      refine gd_iadd hC dX4_likesOf_27 ?_
      refine gd_istore_n hC dX4_likesOf_28 rfl (by decide) (lv' := [(2, zz_v ((zz_mln (S 83) (S 82) i j) + 0)), (0, .ref (a 77)), (1, zz_v x), (3, zz_v (j : Int))]) rfl ?_
      refine gd_iinc hC dX4_likesOf_29 (j := 3) rfl (y := ((j + 1 : Nat) : Int)) (by omega) (by decide) (lv' := [(3, zz_v ((j + 1 : Nat) : Int)), (2, zz_v ((zz_mln (S 83) (S 82) i j) + 0)), (0, .ref (a 77)), (1, zz_v x)]) rfl ?_
      refine gd_goto hC dX4_likesOf_32 (tgt := 4) (by decide) ?_
      refine gd_sub [2, 3, 1, 0] (lv' := [(0, .ref (a 77)), (1, zz_v x), (2, zz_v ((zz_mln (S 83) (S 82) i j) + 0)), (3, zz_v ((j + 1 : Nat) : Int))]) rfl ?_
      have hz : (zz_mln (S 83) (S 82) i j) + 0 = zz_mln (S 83) (S 82) i (j + 1) := by rw [zz_mln]; omega
      refine gd_lveq (lv' := [(0, .ref (a 77)), (1, zz_v x), (2, zz_v (zz_mln (S 83) (S 82) i (j + 1))), (3, zz_v (((j + 1) : Nat) : Int))]) (by rw [hz]) ?_
      exact ih (j + 1) (by omega) (show (S 77 7).toNat - (j + 1) < (S 77 7).toNat - j by omega)
    · skip
      refine gd_iconst hC dX4_likesOf_22 ?_
      refine gd_goto hC dX4_likesOf_23 (tgt := 27) (by decide) ?_
      refine gd_iadd hC dX4_likesOf_27 ?_
      refine gd_istore_n hC dX4_likesOf_28 rfl (by decide) (lv' := [(2, zz_v ((zz_mln (S 83) (S 82) i j) + 1)), (0, .ref (a 77)), (1, zz_v x), (3, zz_v (j : Int))]) rfl ?_
      refine gd_iinc hC dX4_likesOf_29 (j := 3) rfl (y := ((j + 1 : Nat) : Int)) (by omega) (by decide) (lv' := [(3, zz_v ((j + 1 : Nat) : Int)), (2, zz_v ((zz_mln (S 83) (S 82) i j) + 1)), (0, .ref (a 77)), (1, zz_v x)]) rfl ?_
      refine gd_goto hC dX4_likesOf_32 (tgt := 4) (by decide) ?_
      refine gd_sub [2, 3, 1, 0] (lv' := [(0, .ref (a 77)), (1, zz_v x), (2, zz_v ((zz_mln (S 83) (S 82) i j) + 1)), (3, zz_v ((j + 1 : Nat) : Int))]) rfl ?_
      have hz : (zz_mln (S 83) (S 82) i j) + 1 = zz_mln (S 83) (S 82) i (j + 1) := by rw [zz_mln]; omega
      refine gd_lveq (lv' := [(0, .ref (a 77)), (1, zz_v x), (2, zz_v (zz_mln (S 83) (S 82) i (j + 1))), (3, zz_v (((j + 1) : Nat) : Int))]) (by rw [hz]) ?_
      exact ih (j + 1) (by omega) (show (S 77 7).toNat - (j + 1) < (S 77 7).toNat - j by omega)

abbrev rm_X4_doesFail : Room := { frames := 0, cells := 0, slots := 0, locals := 0 }
set_option maxHeartbeats 4000000 in
set_option maxRecDepth 100000 in
theorem c_X4_doesFail (l : Launch) (hl9 : l.stackTraces = false) (N0 : Nat) (G : zz_G) (Y : zz_Y) (a : Nat → Nat) (S : zz_S) (x : Int) (i : Nat) (hi : x = (i : Int)) (hi2 : i < 24) (ikd : zz_rr S 83 24 0 3) (itd : zz_rr S 84 24 0 5000) : CtR l yX4_doesFail wsX4_doesFail rm_X4_doesFail 0 [.ref (a 77), zz_v x] N0 G Y a S (zz_mfr (S 85) (S 81) (S 83) (S 84) i) (S) (zz_mfr (S 85) (S 81) (S 83) (S 84) i = 0 ∨ zz_mfr (S 85) (S 81) (S 83) (S 84) i = 1) (False) (False) (False) := by
  refine Ct_.of (cc := cX4_doesFail) (maxL := 2) (ret := (some .boolean)) (by decide) rfl (Nat.le_of_ble_eq_true rfl) ?_
  intro p e s m args below meth c hC hts hr hlk hex hF
  have hK := hF.2.1
  have w4 : ∀ w ∈ u_ws RX4 TX4 27, w.before args s = true := fun w h => hts w (List.mem_cons_of_mem _ (List.mem_append_right _ h))
  have f20 : (Cond.fieldLink RX4 20 "GrievancehallModel" "limits" "[I").before args s = true := hts _ (by decide +kernel)
  have f26 : (Cond.fieldLink RX4 26 "GrievancehallModel" "kind" "[I").before args s = true := hts _ (by decide +kernel)
  have f29 : (Cond.fieldLink RX4 29 "GrievancehallModel" "told" "[I").before args s = true := hts _ (by decide +kernel)
  have f32 : (Cond.fieldLink RX4 32 "GrievancehallModel" "measure" "[I").before args s = true := hts _ (by decide +kernel)
  refine gd_lveq (lv' := [(0, .ref (a 77)), (1, zz_v x)]) rfl ?_
  have hk1 := ikd i (by omega)
  have ht1 := itd i (by omega)
  refine gd_aload_n hC dX4_doesFail_0 rfl (j := 0) rfl ?_
  refine gd_getR hC w4 hK (ci := 4) rfl (by decide) rfl 11 (by decide) (j := 85) rfl f32 rfl dX4_doesFail_1 ?_
  refine gd_iload_n hC dX4_doesFail_4 rfl (j := 1) rfl ?_
  refine gd_iald hC hK (j := i) rfl (by decide) hi (by omega) (by decide) dX4_doesFail_5 (fun r1 => ?_)
  obtain ⟨r1a, r1b⟩ := id r1
  refine gd_aload_n hC dX4_doesFail_6 rfl (j := 0) rfl ?_
  refine gd_getR hC w4 hK (ci := 4) rfl (by decide) rfl 6 (by decide) (j := 81) rfl f20 rfl dX4_doesFail_7 ?_
  refine gd_sipush hC dX4_doesFail_10 rfl ?_
  refine gd_aload_n hC dX4_doesFail_13 rfl (j := 0) rfl ?_
  refine gd_getR hC w4 hK (ci := 4) rfl (by decide) rfl 9 (by decide) (j := 83) rfl f26 rfl dX4_doesFail_14 ?_
  refine gd_iload_n hC dX4_doesFail_17 rfl (j := 1) rfl ?_
  refine gd_iald hC hK (j := i) rfl (by decide) hi (by omega) (by decide) dX4_doesFail_18 (fun r2 => ?_)
  obtain ⟨r2a, r2b⟩ := id r2
  refine gd_imul hC dX4_doesFail_19 ?_
  refine gd_aload_n hC dX4_doesFail_20 rfl (j := 0) rfl ?_
  refine gd_getR hC w4 hK (ci := 4) rfl (by decide) rfl 10 (by decide) (j := 84) rfl f29 rfl dX4_doesFail_21 ?_
  refine gd_iload_n hC dX4_doesFail_24 rfl (j := 1) rfl ?_
  refine gd_iald hC hK (j := i) rfl (by decide) hi (by omega) (by decide) dX4_doesFail_25 (fun r3 => ?_)
  obtain ⟨r3a, r3b⟩ := id r3
  refine gd_iadd hC dX4_doesFail_26 ?_
  refine gd_iald hC hK (j := ((5001 * (S 83 i)) + (S 84 i)).toNat) rfl (by decide) (by omega) (by omega) (by decide) dX4_doesFail_27 (fun r4 => ?_)
  obtain ⟨r4a, r4b⟩ := id r4
  refine gd_icmp_le hC dX4_doesFail_28 (tgt := 35) (by decide) ⟨by omega, by omega⟩ ⟨by omega, by omega⟩ (fun c5 => ?_) (fun c5 => ?_)
  · skip
    refine gd_iconst hC dX4_doesFail_35 ?_
    exact gd_ireturn hC hr (zz_nb (by omega)) hlk dX4_doesFail_36 (by decide) ⟨_, ⟨by decide, by decide⟩, rfl, (by first | rfl | ((repeat' split) <;> first | rfl | omega)), (by unfold zz_mfr; omega), (zz_mfr_01 _ _ _ _ _)⟩
  · skip
    refine gd_iconst hC dX4_doesFail_31 ?_
    refine gd_goto hC dX4_doesFail_32 (tgt := 36) (by decide) ?_
    exact gd_ireturn hC hr (zz_nb (by omega)) hlk dX4_doesFail_36 (by decide) ⟨_, ⟨by decide, by decide⟩, rfl, (by first | rfl | ((repeat' split) <;> first | rfl | omega)), (by unfold zz_mfr; omega), (zz_mfr_01 _ _ _ _ _)⟩

abbrev rm_X4_isUnequal : Room := { frames := 2, cells := 0, slots := 0, locals := 45 }
set_option maxHeartbeats 4000000 in
set_option maxRecDepth 100000 in
theorem c_X4_isUnequal (l : Launch) (hl9 : l.stackTraces = false) (N0 : Nat) (G : zz_G) (Y : zz_Y) (a : Nat → Nat) (S : zz_S) (x : Int) (i : Nat) (hi : x = (i : Int)) (hi2 : i < 24) (ima : 0 ≤ S 77 7 ∧ S 77 7 ≤ 24) (ims : zz_rr S 85 24 0 100) : CtR l yX4_isUnequal wsX4_isUnequal rm_X4_isUnequal 0 [.ref (a 77), zz_v x] N0 G Y a S (zz_mun (S 83) (S 82) (S 85) (S 77 7).toNat i) (S) (zz_mun (S 83) (S 82) (S 85) (S 77 7).toNat i = 0 ∨ zz_mun (S 83) (S 82) (S 85) (S 77 7).toNat i = 1) (False) (False) (False) := by
  refine Ct_.of (cc := cX4_isUnequal) (maxL := 5) (ret := (some .boolean)) (by decide) rfl (Nat.le_of_ble_eq_true rfl) ?_
  intro p e s m args below meth c hC hts hr hlk hex hF
  have hK := hF.2.1
  have w4 : ∀ w ∈ u_ws RX4 TX4 27, w.before args s = true := fun w h => hts w (List.mem_cons_of_mem _ (List.mem_append_right _ h))
  have f32 : (Cond.fieldLink RX4 32 "GrievancehallModel" "measure" "[I").before args s = true := hts _ (by decide +kernel)
  have f86 : (Cond.fieldLink RX4 86 "GrievancehallModel" "acts" "I").before args s = true := hts _ (by decide +kernel)
  refine gd_lveq (lv' := [(0, .ref (a 77)), (1, zz_v x)]) rfl ?_
  refine gd_aload_n hC dX4_isUnequal_0 rfl (j := 0) rfl ?_
  refine gd_iload_n hC dX4_isUnequal_1 rfl (j := 1) rfl ?_
  refine gd_callVR (As := [zz_v x]) (rest := []) hC hF (fun hR => c_X4_likesOf l hl9 N0 G Y a (S) x i hi (by omega) ima) (cwV 1 hts gX4_isUnequal_X4_likesOf rfl rfl rfl (by decide +kernel) ⟨by decide, by decide⟩) rfl (by decide) (ci := 4) rfl rfl rfl rfl (Nat.le_of_ble_eq_true rfl) dX4_isUnequal_2 ⟨by decide, by decide⟩ (fun E hx => zz_xn hx) (fun q1 q1r => ?_)
  obtain ⟨q1a, q1b⟩ := id q1r
  refine gd_istore_n hC dX4_isUnequal_5 rfl (by decide) (lv' := [(2, zz_v (zz_mln (S 83) (S 82) i (S 77 7).toNat)), (0, .ref (a 77)), (1, zz_v x)]) rfl ?_
  refine gd_iconst hC dX4_isUnequal_6 ?_
  refine gd_istore_n hC dX4_isUnequal_7 rfl (by decide) (lv' := [(3, zz_v 0), (2, zz_v (zz_mln (S 83) (S 82) i (S 77 7).toNat)), (0, .ref (a 77)), (1, zz_v x)]) rfl ?_
  refine gd_iconst hC dX4_isUnequal_8 ?_
  refine gd_istore hC dX4_isUnequal_9 (by decide) (lv' := [(4, zz_v 0), (3, zz_v 0), (2, zz_v (zz_mln (S 83) (S 82) i (S 77 7).toNat)), (0, .ref (a 77)), (1, zz_v x)]) rfl ?_
  refine gd_sub [3, 4, 2, 1, 0] (lv' := [(0, .ref (a 77)), (1, zz_v x), (2, zz_v (zz_mln (S 83) (S 82) i (S 77 7).toNat)), (3, zz_v 0), (4, zz_v 0)]) rfl ?_
  refine gd_loop (σ := Nat) (μ := fun vz => (S 77 7).toNat - vz) (I := fun vz => (vz ≤ (S 77 7).toNat)) (Sf := fun vz => S) (lf := fun vz => [(0, .ref (a 77)), (1, zz_v x), (2, zz_v (zz_mln (S 83) (S 82) i (S 77 7).toNat)), (3, zz_v (zz_mls (S 83) (S 82) (S 85) i vz)), (4, zz_v (vz : Int))]) 0 (by omega) rfl rfl (fun j hI ih => ?_)
  have hI0 : j ≤ (S 77 7).toNat := hI
  refine gd_lveq (lv' := [(0, .ref (a 77)), (1, zz_v x), (2, zz_v (zz_mln (S 83) (S 82) i (S 77 7).toNat)), (3, zz_v (zz_mls (S 83) (S 82) (S 85) i j)), (4, zz_v (j : Int))]) rfl ?_
  refine gd_eq (S' := S) rfl ?_
  have hrg := zz_mls_rng (S 83) (S 82) (S 85) i 24 ims j (by omega)
  refine gd_iload hC dX4_isUnequal_11 (j := 4) rfl ?_
  refine gd_aload_n hC dX4_isUnequal_13 rfl (j := 0) rfl ?_
  refine gd_getI hC w4 hK (ci := 4) rfl (by decide) rfl 7 (by decide) rfl f86 rfl dX4_isUnequal_14 (fun r2 => ?_)
  obtain ⟨r2a, r2b⟩ := id r2
  refine gd_icmp_ge hC dX4_isUnequal_17 (tgt := 50) (by decide) ⟨by omega, by omega⟩ ⟨by omega, by omega⟩ (fun c3 => ?_) (fun c3 => ?_)
  · skip
    have hls : zz_mls (S 83) (S 82) (S 85) i j = zz_mls (S 83) (S 82) (S 85) i (S 77 7).toNat := by rw [show (S 77 7).toNat = j by omega]
    refine gd_iload_n hC dX4_isUnequal_50 rfl (j := 2) rfl ?_
    refine gd_iconst hC dX4_isUnequal_51 ?_
    refine gd_icmp_lt hC dX4_isUnequal_52 (tgt := 73) (by decide) ⟨by omega, by omega⟩ ⟨by decide, by decide⟩ (fun c4 => ?_) (fun c4 => ?_)
    · skip
      refine gd_iconst hC dX4_isUnequal_73 ?_
      exact gd_ireturn hC hr (zz_nb (by omega)) hlk dX4_isUnequal_74 (by decide) ⟨_, ⟨by decide, by decide⟩, rfl, (by first | rfl | ((repeat' split) <;> first | rfl | omega)), (by unfold zz_mun; rw [← hls]; omega), (by unfold zz_mun; omega)⟩
    · skip
      refine gd_aload_n hC dX4_isUnequal_55 rfl (j := 0) rfl ?_
      refine gd_getR hC w4 hK (ci := 4) rfl (by decide) rfl 11 (by decide) (j := 85) rfl f32 rfl dX4_isUnequal_56 ?_
      refine gd_iload_n hC dX4_isUnequal_59 rfl (j := 1) rfl ?_
      refine gd_iald hC hK (j := i) rfl (by decide) hi (by omega) (by decide) dX4_isUnequal_60 (fun r5 => ?_)
      obtain ⟨r5a, r5b⟩ := id r5
      refine gd_iconst hC dX4_isUnequal_61 ?_
      refine gd_iload_n hC dX4_isUnequal_62 rfl (j := 3) rfl ?_
      refine gd_iload_n hC dX4_isUnequal_63 rfl (j := 2) rfl ?_
      refine gd_idiv hC dX4_isUnequal_64 ⟨by omega, by omega⟩ ⟨by omega, by omega⟩ ?_
      have hdv1 : 0 ≤ zz_mls (S 83) (S 82) (S 85) i j / zz_mln (S 83) (S 82) i (S 77 7).toNat := Int.ediv_nonneg (by omega) (by omega)
      have hdv2 : zz_mls (S 83) (S 82) (S 85) i j / zz_mln (S 83) (S 82) i (S 77 7).toNat ≤ zz_mls (S 83) (S 82) (S 85) i j := Int.ediv_le_self _ (by omega)
      refine gd_imul hC dX4_isUnequal_65 ?_
      refine gd_icmp_le hC dX4_isUnequal_66 (tgt := 73) (by decide) ⟨by omega, by omega⟩ ⟨by omega, by omega⟩ (fun c6 => ?_) (fun c6 => ?_)
      · skip
        refine gd_iconst hC dX4_isUnequal_73 ?_
        exact gd_ireturn hC hr (zz_nb (by omega)) hlk dX4_isUnequal_74 (by decide) ⟨_, ⟨by decide, by decide⟩, rfl, (by first | rfl | ((repeat' split) <;> first | rfl | omega)), (by unfold zz_mun; rw [← hls]; omega), (by unfold zz_mun; omega)⟩
      · skip
        refine gd_iconst hC dX4_isUnequal_69 ?_
        refine gd_goto hC dX4_isUnequal_70 (tgt := 74) (by decide) ?_
        exact gd_ireturn hC hr (zz_nb (by omega)) hlk dX4_isUnequal_74 (by decide) ⟨_, ⟨by decide, by decide⟩, rfl, (by first | rfl | ((repeat' split) <;> first | rfl | omega)), (by unfold zz_mun; rw [← hls]; omega), (by unfold zz_mun; omega)⟩
  · skip
    refine gd_iload_n hC dX4_isUnequal_20 rfl (j := 3) rfl ?_
    refine gd_aload_n hC dX4_isUnequal_21 rfl (j := 0) rfl ?_
    refine gd_iload_n hC dX4_isUnequal_22 rfl (j := 1) rfl ?_
    refine gd_iload hC dX4_isUnequal_23 (j := 4) rfl ?_
    refine gd_callVR (As := [zz_v x, zz_v (j : Int)]) (rest := [zz_v (zz_mls (S 83) (S 82) (S 85) i j)]) hC hF (fun hR => c_X4_areLike l hl9 N0 G Y a (S) x (j : Int) i j hi rfl (by omega) (by omega)) (cwV 2 hts gX4_isUnequal_X4_areLike rfl rfl rfl (by decide +kernel) ⟨by decide, by decide⟩) rfl (by decide) (ci := 4) rfl rfl rfl rfl (Nat.le_of_ble_eq_true rfl) dX4_isUnequal_25 ⟨by decide, by decide⟩ (fun E hx => zz_xn hx) (fun q7 q7r => ?_)
    obtain ⟨q7a, q7b⟩ := id q7r
    refine gd_if_eq hC dX4_isUnequal_28 (tgt := 41) (by decide) ⟨by omega, by omega⟩ (fun c8 => ?_) (fun c8 => ?_)
    · skip
      refine gd_iconst hC dX4_isUnequal_41 ?_
      refine gd_iadd hC dX4_isUnequal_42 ?_
      refine gd_istore_n hC dX4_isUnequal_43 rfl (by decide) (lv' := [(3, zz_v ((zz_mls (S 83) (S 82) (S 85) i j) + 0)), (0, .ref (a 77)), (1, zz_v x), (2, zz_v (zz_mln (S 83) (S 82) i (S 77 7).toNat)), (4, zz_v (j : Int))]) rfl ?_
      refine gd_iinc hC dX4_isUnequal_44 (j := 4) rfl (y := ((j + 1 : Nat) : Int)) (by omega) (by decide) (lv' := [(4, zz_v ((j + 1 : Nat) : Int)), (3, zz_v ((zz_mls (S 83) (S 82) (S 85) i j) + 0)), (0, .ref (a 77)), (1, zz_v x), (2, zz_v (zz_mln (S 83) (S 82) i (S 77 7).toNat))]) rfl ?_
      refine gd_goto hC dX4_isUnequal_47 (tgt := 11) (by decide) ?_
      refine gd_sub [2, 3, 4, 1, 0] (lv' := [(0, .ref (a 77)), (1, zz_v x), (2, zz_v (zz_mln (S 83) (S 82) i (S 77 7).toNat)), (3, zz_v ((zz_mls (S 83) (S 82) (S 85) i j) + 0)), (4, zz_v ((j + 1 : Nat) : Int))]) rfl ?_
      have hz : (zz_mls (S 83) (S 82) (S 85) i j) + 0 = zz_mls (S 83) (S 82) (S 85) i (j + 1) := by rw [zz_mls]; omega
      refine gd_lveq (lv' := [(0, .ref (a 77)), (1, zz_v x), (2, zz_v (zz_mln (S 83) (S 82) i (S 77 7).toNat)), (3, zz_v (zz_mls (S 83) (S 82) (S 85) i (j + 1))), (4, zz_v (((j + 1) : Nat) : Int))]) (by rw [hz]) ?_
      exact ih (j + 1) (by omega) (show (S 77 7).toNat - (j + 1) < (S 77 7).toNat - j by omega)
    · skip
      refine gd_aload_n hC dX4_isUnequal_31 rfl (j := 0) rfl ?_
      refine gd_getR hC w4 hK (ci := 4) rfl (by decide) rfl 11 (by decide) (j := 85) rfl f32 rfl dX4_isUnequal_32 ?_
      refine gd_iload hC dX4_isUnequal_35 (j := 4) rfl ?_
      refine gd_iald hC hK (j := j) rfl (by decide) rfl (by omega) (by decide) dX4_isUnequal_37 (fun r9 => ?_)
      obtain ⟨r9a, r9b⟩ := id r9
      refine gd_goto hC dX4_isUnequal_38 (tgt := 42) (by decide) ?_
      refine gd_iadd hC dX4_isUnequal_42 ?_
      refine gd_istore_n hC dX4_isUnequal_43 rfl (by decide) (lv' := [(3, zz_v ((zz_mls (S 83) (S 82) (S 85) i j) + (S 85 j))), (0, .ref (a 77)), (1, zz_v x), (2, zz_v (zz_mln (S 83) (S 82) i (S 77 7).toNat)), (4, zz_v (j : Int))]) rfl ?_
      refine gd_iinc hC dX4_isUnequal_44 (j := 4) rfl (y := ((j + 1 : Nat) : Int)) (by omega) (by decide) (lv' := [(4, zz_v ((j + 1 : Nat) : Int)), (3, zz_v ((zz_mls (S 83) (S 82) (S 85) i j) + (S 85 j))), (0, .ref (a 77)), (1, zz_v x), (2, zz_v (zz_mln (S 83) (S 82) i (S 77 7).toNat))]) rfl ?_
      refine gd_goto hC dX4_isUnequal_47 (tgt := 11) (by decide) ?_
      refine gd_sub [2, 3, 4, 1, 0] (lv' := [(0, .ref (a 77)), (1, zz_v x), (2, zz_v (zz_mln (S 83) (S 82) i (S 77 7).toNat)), (3, zz_v ((zz_mls (S 83) (S 82) (S 85) i j) + (S 85 j))), (4, zz_v ((j + 1 : Nat) : Int))]) rfl ?_
      have hz : (zz_mls (S 83) (S 82) (S 85) i j) + (S 85 j) = zz_mls (S 83) (S 82) (S 85) i (j + 1) := by rw [zz_mls]; omega
      refine gd_lveq (lv' := [(0, .ref (a 77)), (1, zz_v x), (2, zz_v (zz_mln (S 83) (S 82) i (S 77 7).toNat)), (3, zz_v (zz_mls (S 83) (S 82) (S 85) i (j + 1))), (4, zz_v (((j + 1) : Nat) : Int))]) (by rw [hz]) ?_
      exact ih (j + 1) (by omega) (show (S 77 7).toNat - (j + 1) < (S 77 7).toNat - j by omega)

abbrev rm_X4_faultOf : Room := { frames := 3, cells := 0, slots := 0, locals := 69 }
set_option maxHeartbeats 4000000 in
set_option maxRecDepth 100000 in
theorem c_X4_faultOf (l : Launch) (hl9 : l.stackTraces = false) (N0 : Nat) (G : zz_G) (Y : zz_Y) (a : Nat → Nat) (S : zz_S) (x : Int) (i : Nat) (hi : x = (i : Int)) (hi2 : i < 24) (ima : 0 ≤ S 77 7 ∧ S 77 7 ≤ 24) (ims : zz_rr S 85 24 0 100) (ikd : zz_rr S 83 24 0 3) (itd : zz_rr S 84 24 0 5000) : CtR l yX4_faultOf wsX4_faultOf rm_X4_faultOf 0 [.ref (a 77), zz_v x] N0 G Y a S (zz_mft (S 85) (S 81) (S 83) (S 84) (S 82) (S 77 7).toNat i) (S) (0 ≤ zz_mft (S 85) (S 81) (S 83) (S 84) (S 82) (S 77 7).toNat i ∧ zz_mft (S 85) (S 81) (S 83) (S 84) (S 82) (S 77 7).toNat i ≤ 3) (False) (False) (False) := by
  refine Ct_.of (cc := cX4_faultOf) (maxL := 2) (ret := (some .int)) (by decide) rfl (Nat.le_of_ble_eq_true rfl) ?_
  intro p e s m args below meth c hC hts hr hlk hex hF
  have hK := hF.2.1
  refine gd_lveq (lv' := [(0, .ref (a 77)), (1, zz_v x)]) rfl ?_
  refine gd_aload_n hC dX4_faultOf_0 rfl (j := 0) rfl ?_
  refine gd_iload_n hC dX4_faultOf_1 rfl (j := 1) rfl ?_
  refine gd_callVR (As := [zz_v x]) (rest := []) hC hF (fun hR => c_X4_doesFail l hl9 N0 G Y a (S) x i hi (by omega) ikd itd) (cwV 1 hts gX4_faultOf_X4_doesFail rfl rfl rfl (by decide +kernel) ⟨by decide, by decide⟩) rfl (by decide) (ci := 4) rfl rfl rfl rfl (Nat.le_of_ble_eq_true rfl) dX4_faultOf_2 ⟨by decide, by decide⟩ (fun E hx => zz_xn hx) (fun q1 q1r => ?_)
  obtain ⟨q1a, q1b⟩ := id q1r
  refine gd_if_eq hC dX4_faultOf_5 (tgt := 12) (by decide) ⟨by omega, by omega⟩ (fun c2 => ?_) (fun c2 => ?_)
  · skip
    refine gd_iconst hC dX4_faultOf_12 ?_
    refine gd_aload_n hC dX4_faultOf_13 rfl (j := 0) rfl ?_
    refine gd_iload_n hC dX4_faultOf_14 rfl (j := 1) rfl ?_
    refine gd_callVR (As := [zz_v x]) (rest := [zz_v 0]) hC hF (fun hR => c_X4_isUnequal l hl9 N0 G Y a (S) x i hi (by omega) ima ims) (cwV 1 hts gX4_faultOf_X4_isUnequal rfl rfl rfl (by decide +kernel) ⟨by decide, by decide⟩) rfl (by decide) (ci := 4) rfl rfl rfl rfl (Nat.le_of_ble_eq_true rfl) dX4_faultOf_15 ⟨by decide, by decide⟩ (fun E hx => zz_xn hx) (fun q3 q3r => ?_)
    obtain ⟨q3a, q3b⟩ := id q3r
    refine gd_if_eq hC dX4_faultOf_18 (tgt := 25) (by decide) ⟨by omega, by omega⟩ (fun c4 => ?_) (fun c4 => ?_)
    · skip
      refine gd_iconst hC dX4_faultOf_25 ?_
      refine gd_iadd hC dX4_faultOf_26 ?_
      refine gd_top (y := 0) rfl ?_
      exact gd_ireturn hC hr rfl hlk dX4_faultOf_27 (by decide) ⟨_, ⟨by decide, by decide⟩, rfl, (by first | rfl | ((repeat' split) <;> first | rfl | omega)), (by unfold zz_mft; omega), (zz_mft_rng _ _ _ _ _ _ _)⟩
    · skip
      refine gd_iconst hC dX4_faultOf_21 ?_
      refine gd_goto hC dX4_faultOf_22 (tgt := 26) (by decide) ?_
      refine gd_iadd hC dX4_faultOf_26 ?_
      refine gd_top (y := 2) rfl ?_
      exact gd_ireturn hC hr rfl hlk dX4_faultOf_27 (by decide) ⟨_, ⟨by decide, by decide⟩, rfl, (by first | rfl | ((repeat' split) <;> first | rfl | omega)), (by unfold zz_mft; omega), (zz_mft_rng _ _ _ _ _ _ _)⟩
  · skip
    refine gd_iconst hC dX4_faultOf_8 ?_
    refine gd_goto hC dX4_faultOf_9 (tgt := 13) (by decide) ?_
    refine gd_aload_n hC dX4_faultOf_13 rfl (j := 0) rfl ?_
    refine gd_iload_n hC dX4_faultOf_14 rfl (j := 1) rfl ?_
    refine gd_callVR (As := [zz_v x]) (rest := [zz_v 1]) hC hF (fun hR => c_X4_isUnequal l hl9 N0 G Y a (S) x i hi (by omega) ima ims) (cwV 1 hts gX4_faultOf_X4_isUnequal rfl rfl rfl (by decide +kernel) ⟨by decide, by decide⟩) rfl (by decide) (ci := 4) rfl rfl rfl rfl (Nat.le_of_ble_eq_true rfl) dX4_faultOf_15 ⟨by decide, by decide⟩ (fun E hx => zz_xn hx) (fun q5 q5r => ?_)
    obtain ⟨q5a, q5b⟩ := id q5r
    refine gd_if_eq hC dX4_faultOf_18 (tgt := 25) (by decide) ⟨by omega, by omega⟩ (fun c6 => ?_) (fun c6 => ?_)
    · skip
      refine gd_iconst hC dX4_faultOf_25 ?_
      refine gd_iadd hC dX4_faultOf_26 ?_
      refine gd_top (y := 1) rfl ?_
      exact gd_ireturn hC hr rfl hlk dX4_faultOf_27 (by decide) ⟨_, ⟨by decide, by decide⟩, rfl, (by first | rfl | ((repeat' split) <;> first | rfl | omega)), (by unfold zz_mft; omega), (zz_mft_rng _ _ _ _ _ _ _)⟩
    · skip
      refine gd_iconst hC dX4_faultOf_21 ?_
      refine gd_goto hC dX4_faultOf_22 (tgt := 26) (by decide) ?_
      refine gd_iadd hC dX4_faultOf_26 ?_
      refine gd_top (y := 3) rfl ?_
      exact gd_ireturn hC hr rfl hlk dX4_faultOf_27 (by decide) ⟨_, ⟨by decide, by decide⟩, rfl, (by first | rfl | ((repeat' split) <;> first | rfl | omega)), (by unfold zz_mft; omega), (zz_mft_rng _ _ _ _ _ _ _)⟩

abbrev rm_X4_barOf : Room := { frames := 0, cells := 0, slots := 0, locals := 0 }
set_option maxHeartbeats 4000000 in
set_option maxRecDepth 100000 in
theorem c_X4_barOf (l : Launch) (hl9 : l.stackTraces = false) (N0 : Nat) (G : zz_G) (Y : zz_Y) (a : Nat → Nat) (S : zz_S) (x y : Int) (pn i : Nat) (hx : x = (pn : Int)) (hy : y = (i : Int)) (hp2 : pn < 10) (hi2 : i < 24) (imd : 0 ≤ S 77 0 ∧ S 77 0 ≤ 5000) (ipl : zz_rr S 90 240 (-1) 5000) (itd : zz_rr S 84 24 0 5000) : CtR l yX4_barOf wsX4_barOf rm_X4_barOf 0 [.ref (a 77), zz_v x, zz_v y] N0 G Y a S (zz_mba (S 90) (S 87) (S 88) (S 84) (S 77 0) pn i) (S) (0 ≤ zz_mba (S 90) (S 87) (S 88) (S 84) (S 77 0) pn i ∧ zz_mba (S 90) (S 87) (S 88) (S 84) (S 77 0) pn i ≤ 3) (False) (False) (False) := by
  refine Ct_.of (cc := cX4_barOf) (maxL := 4) (ret := (some .int)) (by decide) rfl (Nat.le_of_ble_eq_true rfl) ?_
  intro p e s m args below meth c hC hts hr hlk hex hF
  have hK := hF.2.1
  have w4 : ∀ w ∈ u_ws RX4 TX4 27, w.before args s = true := fun w h => hts w (List.mem_cons_of_mem _ (List.mem_append_right _ h))
  have f29 : (Cond.fieldLink RX4 29 "GrievancehallModel" "told" "[I").before args s = true := hts _ (by decide +kernel)
  have f38 : (Cond.fieldLink RX4 38 "GrievancehallModel" "isInCourt" "[Z").before args s = true := hts _ (by decide +kernel)
  have f42 : (Cond.fieldLink RX4 42 "GrievancehallModel" "isWaived" "[Z").before args s = true := hts _ (by decide +kernel)
  have f48 : (Cond.fieldLink RX4 48 "GrievancehallModel" "pleaded" "[I").before args s = true := hts _ (by decide +kernel)
  have f107 : (Cond.fieldLink RX4 107 "GrievancehallModel" "day" "I").before args s = true := hts _ (by decide +kernel)
  refine gd_lveq (lv' := [(0, .ref (a 77)), (1, zz_v x), (2, zz_v y)]) rfl ?_
  have hpl := ipl (10 * i + pn) (by omega)
  have htd := itd i (by omega)
  refine gd_aload_n hC dX4_barOf_0 rfl (j := 0) rfl ?_
  refine gd_getR hC w4 hK (ci := 4) rfl (by decide) rfl 16 (by decide) (j := 90) rfl f48 rfl dX4_barOf_1 ?_
  refine gd_bipush hC dX4_barOf_4 rfl ?_
  refine gd_iload_n hC dX4_barOf_6 rfl (j := 2) rfl ?_
  refine gd_imul hC dX4_barOf_7 ?_
  refine gd_iload_n hC dX4_barOf_8 rfl (j := 1) rfl ?_
  refine gd_iadd hC dX4_barOf_9 ?_
  refine gd_iald hC hK (j := (10 * i + pn)) rfl (by decide) (by omega) (by omega) (by decide) dX4_barOf_10 (fun r1 => ?_)
  obtain ⟨r1a, r1b⟩ := id r1
  refine gd_istore_n hC dX4_barOf_11 rfl (by decide) (lv' := [(3, zz_v (S 90 (10 * i + pn))), (0, .ref (a 77)), (1, zz_v x), (2, zz_v y)]) rfl ?_
  refine gd_iload_n hC dX4_barOf_12 rfl (j := 0) rfl ?_
  refine gd_iconst hC dX4_barOf_13 ?_
  refine gd_icmp_eq hC dX4_barOf_14 (tgt := 28) (by decide) ⟨by omega, by omega⟩ ⟨by decide, by decide⟩ (fun c2 => ?_) (fun c2 => ?_)
  · skip
    refine gd_iconst hC dX4_barOf_28 ?_
    exact gd_ireturn hC hr rfl hlk dX4_barOf_29 (by decide) ⟨_, ⟨by decide, by decide⟩, rfl, (by first | rfl | ((repeat' split) <;> first | rfl | omega)), (by unfold zz_mba; omega), (by unfold zz_mba; omega)⟩
  · skip
    refine gd_aload_n hC dX4_barOf_17 rfl (j := 1) rfl ?_
    refine gd_getI hC w4 hK (ci := 4) rfl (by decide) rfl 0 (by decide) rfl f107 rfl dX4_barOf_18 (fun r3 => ?_)
    obtain ⟨r3a, r3b⟩ := id r3
    refine gd_iload_n hC dX4_barOf_21 rfl (j := 0) rfl ?_
    refine gd_isub hC dX4_barOf_22 ?_
    refine gd_bipush hC dX4_barOf_23 rfl ?_
    refine gd_icmp_ge hC dX4_barOf_25 (tgt := 30) (by decide) ⟨by omega, by omega⟩ ⟨by decide, by decide⟩ (fun c4 => ?_) (fun c4 => ?_)
    · skip
      refine gd_aload_n hC dX4_barOf_30 rfl (j := 1) rfl ?_
      refine gd_getR hC w4 hK (ci := 4) rfl (by decide) rfl 13 (by decide) (j := 87) rfl f38 rfl dX4_barOf_31 ?_
      refine gd_iload_n hC dX4_barOf_34 rfl (j := 3) rfl ?_
      refine gd_zald hC hK (j := i) rfl (by decide) hy (by omega) (by decide) dX4_barOf_35 (fun r5 => ?_)
      obtain ⟨r5a, r5b⟩ := id r5
      refine gd_if_eq hC dX4_barOf_36 (tgt := 43) (by decide) ⟨by omega, by omega⟩ (fun c6 => ?_) (fun c6 => ?_)
      · skip
        refine gd_aload_n hC dX4_barOf_43 rfl (j := 1) rfl ?_
        refine gd_getI hC w4 hK (ci := 4) rfl (by decide) rfl 0 (by decide) rfl f107 rfl dX4_barOf_44 (fun r7 => ?_)
        obtain ⟨r7a, r7b⟩ := id r7
        refine gd_aload_n hC dX4_barOf_47 rfl (j := 1) rfl ?_
        refine gd_getR hC w4 hK (ci := 4) rfl (by decide) rfl 10 (by decide) (j := 84) rfl f29 rfl dX4_barOf_48 ?_
        refine gd_iload_n hC dX4_barOf_51 rfl (j := 3) rfl ?_
        refine gd_iald hC hK (j := i) rfl (by decide) hy (by omega) (by decide) dX4_barOf_52 (fun r8 => ?_)
        obtain ⟨r8a, r8b⟩ := id r8
        refine gd_isub hC dX4_barOf_53 ?_
        refine gd_sipush hC dX4_barOf_54 rfl ?_
        refine gd_icmp_le hC dX4_barOf_57 (tgt := 73) (by decide) ⟨by omega, by omega⟩ ⟨by decide, by decide⟩ (fun c9 => ?_) (fun c9 => ?_)
        · skip
          refine gd_iconst hC dX4_barOf_73 ?_
          exact gd_ireturn hC hr rfl hlk dX4_barOf_74 (by decide) ⟨_, ⟨by decide, by decide⟩, rfl, (by first | rfl | ((repeat' split) <;> first | rfl | omega)), (by unfold zz_mba; omega), (by unfold zz_mba; omega)⟩
        · skip
          refine gd_aload_n hC dX4_barOf_60 rfl (j := 1) rfl ?_
          refine gd_getR hC w4 hK (ci := 4) rfl (by decide) rfl 14 (by decide) (j := 88) rfl f42 rfl dX4_barOf_61 ?_
          refine gd_iload_n hC dX4_barOf_64 rfl (j := 3) rfl ?_
          refine gd_zald hC hK (j := i) rfl (by decide) hy (by omega) (by decide) dX4_barOf_65 (fun r10 => ?_)
          obtain ⟨r10a, r10b⟩ := id r10
          refine gd_if_ne hC dX4_barOf_66 (tgt := 73) (by decide) ⟨by omega, by omega⟩ (fun c11 => ?_) (fun c11 => ?_)
          · skip
            refine gd_iconst hC dX4_barOf_73 ?_
            exact gd_ireturn hC hr rfl hlk dX4_barOf_74 (by decide) ⟨_, ⟨by decide, by decide⟩, rfl, (by first | rfl | ((repeat' split) <;> first | rfl | omega)), (by unfold zz_mba; omega), (by unfold zz_mba; omega)⟩
          · skip
            refine gd_iconst hC dX4_barOf_69 ?_
            refine gd_goto hC dX4_barOf_70 (tgt := 74) (by decide) ?_
            exact gd_ireturn hC hr rfl hlk dX4_barOf_74 (by decide) ⟨_, ⟨by decide, by decide⟩, rfl, (by first | rfl | ((repeat' split) <;> first | rfl | omega)), (by unfold zz_mba; omega), (by unfold zz_mba; omega)⟩
      · skip
        refine gd_iconst hC dX4_barOf_39 ?_
        refine gd_goto hC dX4_barOf_40 (tgt := 74) (by decide) ?_
        exact gd_ireturn hC hr rfl hlk dX4_barOf_74 (by decide) ⟨_, ⟨by decide, by decide⟩, rfl, (by first | rfl | ((repeat' split) <;> first | rfl | omega)), (by unfold zz_mba; omega), (by unfold zz_mba; omega)⟩
    · skip
      refine gd_iconst hC dX4_barOf_28 ?_
      exact gd_ireturn hC hr rfl hlk dX4_barOf_29 (by decide) ⟨_, ⟨by decide, by decide⟩, rfl, (by first | rfl | ((repeat' split) <;> first | rfl | omega)), (by unfold zz_mba; omega), (by unfold zz_mba; omega)⟩

abbrev rm_X4_complaintOf : Room := { frames := 0, cells := 0, slots := 0, locals := 0 }
set_option maxHeartbeats 4000000 in
set_option maxRecDepth 100000 in
theorem c_X4_complaintOf (l : Launch) (hl9 : l.stackTraces = false) (N0 : Nat) (G : zz_G) (Y : zz_Y) (a : Nat → Nat) (S : zz_S) (x : Int) (hx : zz_R x) (imc : 0 ≤ S 77 17 ∧ S 77 17 ≤ 16) : CtR l yX4_complaintOf wsX4_complaintOf rm_X4_complaintOf 0 [.ref (a 77), zz_v x] N0 G Y a S (zz_mcj (S 91) (S 92) x (S 77 17).toNat) (S) (-1 ≤ zz_mcj (S 91) (S 92) x (S 77 17).toNat ∧ zz_mcj (S 91) (S 92) x (S 77 17).toNat < S 77 17) (False) (False) (False) := by
  refine Ct_.of (cc := cX4_complaintOf) (maxL := 4) (ret := (some .int)) (by decide) rfl (Nat.le_of_ble_eq_true rfl) ?_
  intro p e s m args below meth c hC hts hr hlk hex hF
  have hK := hF.2.1
  have w4 : ∀ w ∈ u_ws RX4 TX4 27, w.before args s = true := fun w h => hts w (List.mem_cons_of_mem _ (List.mem_append_right _ h))
  have f51 : (Cond.fieldLink RX4 51 "GrievancehallModel" "about" "[I").before args s = true := hts _ (by decide +kernel)
  have f54 : (Cond.fieldLink RX4 54 "GrievancehallModel" "state" "[I").before args s = true := hts _ (by decide +kernel)
  have f89 : (Cond.fieldLink RX4 89 "GrievancehallModel" "complaints" "I").before args s = true := hts _ (by decide +kernel)
  refine gd_lveq (lv' := [(0, .ref (a 77)), (1, zz_v x)]) rfl ?_
  obtain ⟨hx1, hx2⟩ := id hx
  refine gd_iconst hC dX4_complaintOf_0 ?_
  refine gd_istore_n hC dX4_complaintOf_1 rfl (by decide) (lv' := [(2, zz_v (-1)), (0, .ref (a 77)), (1, zz_v x)]) rfl ?_
  refine gd_iconst hC dX4_complaintOf_2 ?_
  refine gd_istore_n hC dX4_complaintOf_3 rfl (by decide) (lv' := [(3, zz_v 0), (2, zz_v (-1)), (0, .ref (a 77)), (1, zz_v x)]) rfl ?_
  refine gd_sub [2, 3, 1, 0] (lv' := [(0, .ref (a 77)), (1, zz_v x), (2, zz_v (-1)), (3, zz_v 0)]) rfl ?_
  refine gd_loop (σ := Nat) (μ := fun vz => (S 77 17).toNat - vz) (I := fun vz => (vz ≤ (S 77 17).toNat)) (Sf := fun vz => S) (lf := fun vz => [(0, .ref (a 77)), (1, zz_v x), (2, zz_v (zz_mcj (S 91) (S 92) x vz)), (3, zz_v (vz : Int))]) 0 (by omega) rfl rfl (fun j hI ih => ?_)
  have hI0 : j ≤ (S 77 17).toNat := hI
  refine gd_lveq (lv' := [(0, .ref (a 77)), (1, zz_v x), (2, zz_v (zz_mcj (S 91) (S 92) x j)), (3, zz_v (j : Int))]) rfl ?_
  refine gd_eq (S' := S) rfl ?_
  have hrg := zz_mcj_rng (S 91) (S 92) x j
  refine gd_iload_n hC dX4_complaintOf_4 rfl (j := 3) rfl ?_
  refine gd_aload_n hC dX4_complaintOf_5 rfl (j := 0) rfl ?_
  refine gd_getI hC w4 hK (ci := 4) rfl (by decide) rfl 17 (by decide) rfl f89 rfl dX4_complaintOf_6 (fun r1 => ?_)
  obtain ⟨r1a, r1b⟩ := id r1
  refine gd_icmp_ge hC dX4_complaintOf_9 (tgt := 44) (by decide) ⟨by omega, by omega⟩ ⟨by omega, by omega⟩ (fun c2 => ?_) (fun c2 => ?_)
  · skip
    refine gd_iload_n hC dX4_complaintOf_44 rfl (j := 2) rfl ?_
    exact gd_ireturn hC hr rfl hlk dX4_complaintOf_45 (by decide) ⟨_, ⟨by omega, by omega⟩, rfl, (by first | rfl | ((repeat' split) <;> first | rfl | omega)), (by rw [show (S 77 17).toNat = j by omega]), (by rw [show (S 77 17).toNat = j by omega]; omega)⟩
  · skip
    refine gd_aload_n hC dX4_complaintOf_12 rfl (j := 0) rfl ?_
    refine gd_getR hC w4 hK (ci := 4) rfl (by decide) rfl 18 (by decide) (j := 91) rfl f51 rfl dX4_complaintOf_13 ?_
    refine gd_iload_n hC dX4_complaintOf_16 rfl (j := 3) rfl ?_
    refine gd_iald hC hK (j := j) rfl (by decide) rfl (by omega) (by decide) dX4_complaintOf_17 (fun r3 => ?_)
    obtain ⟨r3a, r3b⟩ := id r3
    refine gd_iload_n hC dX4_complaintOf_18 rfl (j := 1) rfl ?_
    refine gd_icmp_ne hC dX4_complaintOf_19 (tgt := 36) (by decide) ⟨by omega, by omega⟩ ⟨by omega, by omega⟩ (fun c4 => ?_) (fun c4 => ?_)
    · skip
      refine gd_iload_n hC dX4_complaintOf_36 rfl (j := 2) rfl ?_
      refine gd_istore_n hC dX4_complaintOf_37 rfl (by decide) (lv' := [(2, zz_v (zz_mcj (S 91) (S 92) x j)), (0, .ref (a 77)), (1, zz_v x), (3, zz_v (j : Int))]) rfl ?_
      refine gd_iinc hC dX4_complaintOf_38 (j := 3) rfl (y := ((j + 1 : Nat) : Int)) (by omega) (by decide) (lv' := [(3, zz_v ((j + 1 : Nat) : Int)), (2, zz_v (zz_mcj (S 91) (S 92) x j)), (0, .ref (a 77)), (1, zz_v x)]) rfl ?_
      refine gd_goto hC dX4_complaintOf_41 (tgt := 4) (by decide) ?_
      refine gd_sub [2, 3, 1, 0] (lv' := [(0, .ref (a 77)), (1, zz_v x), (2, zz_v (zz_mcj (S 91) (S 92) x j)), (3, zz_v ((j + 1 : Nat) : Int))]) rfl ?_
      have hz : zz_mcj (S 91) (S 92) x j = zz_mcj (S 91) (S 92) x (j + 1) := by rw [zz_mcj]; omega
      refine gd_lveq (lv' := [(0, .ref (a 77)), (1, zz_v x), (2, zz_v (zz_mcj (S 91) (S 92) x (j + 1))), (3, zz_v (((j + 1) : Nat) : Int))]) (by rw [hz]) ?_
      exact ih (j + 1) (by omega) (show (S 77 17).toNat - (j + 1) < (S 77 17).toNat - j by omega)
    · skip
      refine gd_aload_n hC dX4_complaintOf_22 rfl (j := 0) rfl ?_
      refine gd_getR hC w4 hK (ci := 4) rfl (by decide) rfl 19 (by decide) (j := 92) rfl f54 rfl dX4_complaintOf_23 ?_
      refine gd_iload_n hC dX4_complaintOf_26 rfl (j := 3) rfl ?_
      refine gd_iald hC hK (j := j) rfl (by decide) rfl (by omega) (by decide) dX4_complaintOf_27 (fun r5 => ?_)
      obtain ⟨r5a, r5b⟩ := id r5
      refine gd_iconst hC dX4_complaintOf_28 ?_
      refine gd_icmp_eq hC dX4_complaintOf_29 (tgt := 36) (by decide) ⟨by omega, by omega⟩ ⟨by decide, by decide⟩ (fun c6 => ?_) (fun c6 => ?_)
      · skip
        refine gd_iload_n hC dX4_complaintOf_36 rfl (j := 2) rfl ?_
        refine gd_istore_n hC dX4_complaintOf_37 rfl (by decide) (lv' := [(2, zz_v (zz_mcj (S 91) (S 92) x j)), (0, .ref (a 77)), (1, zz_v x), (3, zz_v (j : Int))]) rfl ?_
        refine gd_iinc hC dX4_complaintOf_38 (j := 3) rfl (y := ((j + 1 : Nat) : Int)) (by omega) (by decide) (lv' := [(3, zz_v ((j + 1 : Nat) : Int)), (2, zz_v (zz_mcj (S 91) (S 92) x j)), (0, .ref (a 77)), (1, zz_v x)]) rfl ?_
        refine gd_goto hC dX4_complaintOf_41 (tgt := 4) (by decide) ?_
        refine gd_sub [2, 3, 1, 0] (lv' := [(0, .ref (a 77)), (1, zz_v x), (2, zz_v (zz_mcj (S 91) (S 92) x j)), (3, zz_v ((j + 1 : Nat) : Int))]) rfl ?_
        have hz : zz_mcj (S 91) (S 92) x j = zz_mcj (S 91) (S 92) x (j + 1) := by rw [zz_mcj]; omega
        refine gd_lveq (lv' := [(0, .ref (a 77)), (1, zz_v x), (2, zz_v (zz_mcj (S 91) (S 92) x (j + 1))), (3, zz_v (((j + 1) : Nat) : Int))]) (by rw [hz]) ?_
        exact ih (j + 1) (by omega) (show (S 77 17).toNat - (j + 1) < (S 77 17).toNat - j by omega)
      · skip
        refine gd_iload_n hC dX4_complaintOf_32 rfl (j := 3) rfl ?_
        refine gd_goto hC dX4_complaintOf_33 (tgt := 37) (by decide) ?_
        refine gd_istore_n hC dX4_complaintOf_37 rfl (by decide) (lv' := [(2, zz_v (j : Int)), (0, .ref (a 77)), (1, zz_v x), (3, zz_v (j : Int))]) rfl ?_
        refine gd_iinc hC dX4_complaintOf_38 (j := 3) rfl (y := ((j + 1 : Nat) : Int)) (by omega) (by decide) (lv' := [(3, zz_v ((j + 1 : Nat) : Int)), (2, zz_v (j : Int)), (0, .ref (a 77)), (1, zz_v x)]) rfl ?_
        refine gd_goto hC dX4_complaintOf_41 (tgt := 4) (by decide) ?_
        refine gd_sub [2, 3, 1, 0] (lv' := [(0, .ref (a 77)), (1, zz_v x), (2, zz_v (j : Int)), (3, zz_v ((j + 1 : Nat) : Int))]) rfl ?_
        have hz : (j : Int) = zz_mcj (S 91) (S 92) x (j + 1) := by rw [zz_mcj]; omega
        refine gd_lveq (lv' := [(0, .ref (a 77)), (1, zz_v x), (2, zz_v (zz_mcj (S 91) (S 92) x (j + 1))), (3, zz_v (((j + 1) : Nat) : Int))]) (by rw [hz]) ?_
        exact ih (j + 1) (by omega) (show (S 77 17).toNat - (j + 1) < (S 77 17).toNat - j by omega)

abbrev rm_X4_isOwed : Room := { frames := 0, cells := 0, slots := 0, locals := 0 }
set_option maxHeartbeats 4000000 in
set_option maxRecDepth 100000 in
theorem c_X4_isOwed (l : Launch) (hl9 : l.stackTraces = false) (N0 : Nat) (G : zz_G) (Y : zz_Y) (a : Nat → Nat) (S : zz_S) (x : Int) (j : Nat) (hj : x = (j : Int)) (hj2 : j < 16) : CtR l yX4_isOwed wsX4_isOwed rm_X4_isOwed 0 [.ref (a 77), zz_v x] N0 G Y a S (zz_mow (S 95) (S 96) j) (S) (zz_mow (S 95) (S 96) j = 0 ∨ zz_mow (S 95) (S 96) j = 1) (False) (False) (False) := by
  refine Ct_.of (cc := cX4_isOwed) (maxL := 2) (ret := (some .boolean)) (by decide) rfl (Nat.le_of_ble_eq_true rfl) ?_
  intro p e s m args below meth c hC hts hr hlk hex hF
  have hK := hF.2.1
  have w4 : ∀ w ∈ u_ws RX4 TX4 27, w.before args s = true := fun w h => hts w (List.mem_cons_of_mem _ (List.mem_append_right _ h))
  have f63 : (Cond.fieldLink RX4 63 "GrievancehallModel" "asked" "[I").before args s = true := hts _ (by decide +kernel)
  have f66 : (Cond.fieldLink RX4 66 "GrievancehallModel" "isAnswered" "[Z").before args s = true := hts _ (by decide +kernel)
  refine gd_lveq (lv' := [(0, .ref (a 77)), (1, zz_v x)]) rfl ?_
  refine gd_aload_n hC dX4_isOwed_0 rfl (j := 0) rfl ?_
  refine gd_getR hC w4 hK (ci := 4) rfl (by decide) rfl 22 (by decide) (j := 95) rfl f63 rfl dX4_isOwed_1 ?_
  refine gd_iload_n hC dX4_isOwed_4 rfl (j := 1) rfl ?_
  refine gd_iald hC hK (j := j) rfl (by decide) hj (by omega) (by decide) dX4_isOwed_5 (fun r1 => ?_)
  obtain ⟨r1a, r1b⟩ := id r1
  refine gd_iconst hC dX4_isOwed_6 ?_
  refine gd_icmp_eq hC dX4_isOwed_7 (tgt := 23) (by decide) ⟨by omega, by omega⟩ ⟨by decide, by decide⟩ (fun c2 => ?_) (fun c2 => ?_)
  · skip
    refine gd_iconst hC dX4_isOwed_23 ?_
    exact gd_ireturn hC hr (zz_nb (by omega)) hlk dX4_isOwed_24 (by decide) ⟨_, ⟨by decide, by decide⟩, rfl, (by first | rfl | ((repeat' split) <;> first | rfl | omega)), (by unfold zz_mow; omega), (by unfold zz_mow; omega)⟩
  · skip
    refine gd_aload_n hC dX4_isOwed_10 rfl (j := 0) rfl ?_
    refine gd_getR hC w4 hK (ci := 4) rfl (by decide) rfl 23 (by decide) (j := 96) rfl f66 rfl dX4_isOwed_11 ?_
    refine gd_iload_n hC dX4_isOwed_14 rfl (j := 1) rfl ?_
    refine gd_zald hC hK (j := j) rfl (by decide) hj (by omega) (by decide) dX4_isOwed_15 (fun r3 => ?_)
    obtain ⟨r3a, r3b⟩ := id r3
    refine gd_if_ne hC dX4_isOwed_16 (tgt := 23) (by decide) ⟨by omega, by omega⟩ (fun c4 => ?_) (fun c4 => ?_)
    · skip
      refine gd_iconst hC dX4_isOwed_23 ?_
      exact gd_ireturn hC hr (zz_nb (by omega)) hlk dX4_isOwed_24 (by decide) ⟨_, ⟨by decide, by decide⟩, rfl, (by first | rfl | ((repeat' split) <;> first | rfl | omega)), (by unfold zz_mow; omega), (by unfold zz_mow; omega)⟩
    · skip
      refine gd_iconst hC dX4_isOwed_19 ?_
      refine gd_goto hC dX4_isOwed_20 (tgt := 24) (by decide) ?_
      exact gd_ireturn hC hr (zz_nb (by omega)) hlk dX4_isOwed_24 (by decide) ⟨_, ⟨by decide, by decide⟩, rfl, (by first | rfl | ((repeat' split) <;> first | rfl | omega)), (by unfold zz_mow; omega), (by unfold zz_mow; omega)⟩

abbrev rm_X4_ones : Room := { frames := 0, cells := 0, slots := 0, locals := 0 }
set_option maxHeartbeats 4000000 in
set_option maxRecDepth 100000 in
theorem c_X4_ones (l : Launch) (hl9 : l.stackTraces = false) (N0 : Nat) (G : zz_G) (Y : zz_Y) (a : Nat → Nat) (S : zz_S) (x : Int) (hx : 0 ≤ x ∧ x < 2147483648) : CtR l yX4_ones wsX4_ones rm_X4_ones 0 [zz_v x] N0 G Y a S (((zz_on x.toNat 10 : Nat) : Int)) (S) (zz_on x.toNat 10 ≤ 10) (False) (False) (False) := by
  refine Ct_.of (cc := cX4_ones) (maxL := 3) (ret := (some .int)) (by decide) rfl (Nat.le_of_ble_eq_true rfl) ?_
  intro p e s m args below meth c hC hts hr hlk hex hF
  have hK := hF.2.1
  refine gd_lveq (lv' := [(0, zz_v x)]) rfl ?_
  refine gd_iconst hC dX4_ones_0 ?_
  refine gd_istore_n hC dX4_ones_1 rfl (by decide) (lv' := [(1, zz_v 0), (0, zz_v x)]) rfl ?_
  refine gd_iconst hC dX4_ones_2 ?_
  refine gd_istore_n hC dX4_ones_3 rfl (by decide) (lv' := [(2, zz_v 0), (1, zz_v 0), (0, zz_v x)]) rfl ?_
  refine gd_sub [2, 1, 0] (lv' := [(0, zz_v x), (1, zz_v 0), (2, zz_v 0)]) rfl ?_
  refine gd_loop (σ := Nat) (μ := fun vz => 10 - vz) (I := fun vz => (vz ≤ 10)) (Sf := fun vz => S) (lf := fun vz => [(0, zz_v x), (1, zz_v ((zz_on x.toNat vz : Nat) : Int)), (2, zz_v (vz : Int))]) 0 (by omega) rfl rfl (fun k hI ih => ?_)
  have hI0 : k ≤ 10 := hI
  refine gd_lveq (lv' := [(0, zz_v x), (1, zz_v ((zz_on x.toNat k : Nat) : Int)), (2, zz_v (k : Int))]) rfl ?_
  refine gd_eq (S' := S) rfl ?_
  have hrg := zz_on_rng x.toNat k
  refine gd_iload_n hC dX4_ones_4 rfl (j := 2) rfl ?_
  refine gd_bipush hC dX4_ones_5 rfl ?_
  refine gd_icmp_ge hC dX4_ones_7 (tgt := 24) (by decide) ⟨by omega, by omega⟩ ⟨by decide, by decide⟩ (fun c1 => ?_) (fun c1 => ?_)
  · skip
    refine gd_iload_n hC dX4_ones_24 rfl (j := 1) rfl ?_
    exact gd_ireturn hC hr rfl hlk dX4_ones_25 (by decide) ⟨_, ⟨by omega, by omega⟩, rfl, (by first | rfl | ((repeat' split) <;> first | rfl | omega)), (by rw [show 10 = k by omega]), (zz_on_rng _ _)⟩
  · skip
    refine gd_iload_n hC dX4_ones_10 rfl (j := 1) rfl ?_
    refine gd_iload_n hC dX4_ones_11 rfl (j := 0) rfl ?_
    refine gd_iload_n hC dX4_ones_12 rfl (j := 2) rfl ?_
    refine gd_ishr hC ⟨by omega, by omega⟩ ⟨by omega, by omega⟩ dX4_ones_13 ?_
    refine gd_top (y := ((x.toNat / 2 ^ k : Nat) : Int)) (by first | rfl | simp) ?_
    refine gd_iconst hC dX4_ones_14 ?_
    refine gd_iand1 hC dX4_ones_15 ?_
    refine gd_iadd hC dX4_ones_16 ?_
    refine gd_istore_n hC dX4_ones_17 rfl (by decide) (lv' := [(1, zz_v (((zz_on x.toNat k : Nat) : Int) + (((x.toNat / 2 ^ k) % 2 : Nat) : Int))), (0, zz_v x), (2, zz_v (k : Int))]) rfl ?_
    refine gd_iinc hC dX4_ones_18 (j := 2) rfl (y := ((k + 1 : Nat) : Int)) (by omega) (by decide) (lv' := [(2, zz_v ((k + 1 : Nat) : Int)), (1, zz_v (((zz_on x.toNat k : Nat) : Int) + (((x.toNat / 2 ^ k) % 2 : Nat) : Int))), (0, zz_v x)]) rfl ?_
    refine gd_goto hC dX4_ones_21 (tgt := 4) (by decide) ?_
    refine gd_sub [2, 1, 0] (lv' := [(0, zz_v x), (1, zz_v (((zz_on x.toNat k : Nat) : Int) + (((x.toNat / 2 ^ k) % 2 : Nat) : Int))), (2, zz_v ((k + 1 : Nat) : Int))]) rfl ?_
    have hz : ((zz_on x.toNat k : Nat) : Int) + (((x.toNat / 2 ^ k) % 2 : Nat) : Int) = ((zz_on x.toNat (k + 1) : Nat) : Int) := by rw [zz_on, Int.natCast_add]
    refine gd_lveq (lv' := [(0, zz_v x), (1, zz_v ((zz_on x.toNat (k + 1) : Nat) : Int)), (2, zz_v (((k + 1) : Nat) : Int))]) (by rw [hz]) ?_
    exact ih (k + 1) (by omega) (show 10 - (k + 1) < 10 - k by omega)
end
