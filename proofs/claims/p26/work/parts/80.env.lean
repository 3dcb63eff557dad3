/-! what the law's start gives: statics, texts, classes, arrays -/
def zs_g9 : Cond := Jvm.Cond.and given_1 narrow_1
def zs_tm (i : Nat) : Term := .string RX3 ([213, 215, 217, 219].getD i 0)
theorem zs_tx1 : ∀ q ∈ zz_tx, Cond.stringRef RX3 q.1 q.2 ∈ lw_tbl := by decide +kernel
theorem zs_tx2 : ∀ q ∈ zz_tx, Cond.exactly (.string RX3 q.1) "java/lang/String" ∈ flatC zs_g9 := by decide +kernel
theorem zs_w1 : ∀ i : Nat, i < 4 → Cond.exactly (zs_tm i) "java/lang/String" ∈ flatC zs_g9 := by decide +kernel
theorem zs_w2 : ∀ i : Nat, i < 4 → Cond.eq (.field (zs_tm i) "java/lang/String" "coder" "B") (.int 0) ∈ flatC zs_g9 := by decide +kernel
theorem zs_w3 : ∀ i : Nat, i < 4 → Cond.arrayOf (.field (zs_tm i) "java/lang/String" "value" "[B") .byte ∈ flatC zs_g9 := by decide +kernel
theorem zs_w4 : ∀ i : Nat, i < 4 → Cond.eq (.length (.field (zs_tm i) "java/lang/String" "value" "[B")) (.int (Int32.ofNat (zz_wl.getD i 0))) ∈ flatC zs_g9 := by decide +kernel
theorem zs_w5 : ∀ i : Nat, i < 4 → ∀ j : Nat, j < zz_wl.getD i 0 → Cond.eq (.elem (.field (zs_tm i) "java/lang/String" "value" "[B") (.int (Int32.ofNat j))) (.int ((zz_wb.getD i []).getD j 0)) ∈ flatC zs_g9 := by decide +kernel
theorem zs_w6 : ∀ i : Nat, i < 4 → ∀ j : Nat, j < 4 → i ≠ j → Cond.not (Cond.eq (zs_tm i) (zs_tm j)) ∈ flatC zs_g9 ∨ Cond.not (Cond.eq (zs_tm j) (zs_tm i)) ∈ flatC zs_g9 := by decide +kernel
theorem zs_w7 : ∀ i : Nat, i < 4 → Cond.stringRef RX3 ([213, 215, 217, 219].getD i 0) (["delay", "promise", "rule", "answer"].getD i "") ∈ lw_tbl := by decide +kernel
theorem zs_x1 : ∀ E ∈ zz_ex, Cond.castable E E ∈ lw_tbl := by decide +kernel
theorem zs_x2 : ∀ E ∈ zz_ex, ∀ E2 ∈ zz_ex, E ≠ E2 → Cond.not (.castable E E2) ∈ flatC zs_g9 := by decide +kernel
theorem zs_x3 : ∀ n ∈ zz_dc, Cond.declares (Bundle.initS n) ∈ lw_tbl := by decide +kernel
theorem zs_env {s : State} {b : Nat} (hts : ∀ w ∈ lw_tbl, w.before #[Value.ref b] s = true) (hgv : zs_g9.before #[Value.ref b] s = true) : ∃ Y : zz_Y, zz_E s.heap.size Y s := by
  have hs := flat_of_before _ hgv
  have hA : ∀ q : Nat, q < s.heap.size → ¬ zz_A s.heap.size q := fun q h => Nat.not_le.mpr h
  obtain ⟨adK, adV, hS4, hev⟩ := vk_Sof (args := #[Value.ref b]) (s := s) (N := 4) (tm := zs_tm) (len := zz_wl) (byt := zz_wb) (A := zz_A s.heap.size) (by decide +kernel) (fun i hi => hs _ (zs_w1 i hi)) (fun i hi => hs _ (zs_w2 i hi)) (fun i hi => hs _ (zs_w3 i hi)) (fun i hi => hs _ (zs_w4 i hi)) (fun i hi j hj => hs _ (zs_w5 i hi j hj)) (fun i j hi hj hij => (zs_w6 i hi j hj hij).imp (fun h => hs _ h) (fun h => hs _ h)) hA
  refine ⟨(adK, adV), vx_Zqof (hts (.laysStatic Bundle.tN "UNASSIGNED_STACK" Bundle.steD) (by decide +kernel)) (hts (.initialized Bundle.tN) (by decide +kernel)) (hs _ (by decide +kernel)) hA, vx_Zqof (hts (.laysStatic Bundle.tN "SUPPRESSED_SENTINEL" Bundle.listD) (by decide +kernel)) (hts (.initialized Bundle.tN) (by decide +kernel)) (hs _ (by decide +kernel)) hA, fun q hq => ?_, hS4, fun i q hq => ?_, fun E hE => va_Nw.of rfl (hts _ (zs_x1 E hE)), fun E hE E2 hE2 hn => va_Nc.of (hs _ (zs_x2 E hE E2 hE2 hn)), fun n hn => va_Nw.of rfl (hts _ (zs_x3 n hn)), va_Zof (hts (.laysStatic "java/lang/String" "COMPACT_STRINGS" "Z") (by decide +kernel)) (hts (.initialized "java/lang/String") (by decide +kernel)) (va_eqi (hs _ (by decide +kernel))) hA, va_Zqof (hts (.laysStatic "jdk/internal/util/Preconditions" "SIOOBE_FORMATTER" "Ljava/util/function/BiFunction;") (by decide +kernel)) (hts (.initialized "jdk/internal/util/Preconditions") (by decide +kernel)) (hs _ (by decide +kernel)) hA⟩
  · obtain ⟨a9, c9, cA, kA, q1, -⟩ := Cond.exactly_spec (args := #[Value.ref b]) (first := s) (o := none) (s := s) (idx := []) (t := .string RX3 q.1) (cls := "java/lang/String") (hs _ (zs_tx2 q hq))
    exact ⟨a9, vk_R.of (hts _ (zs_tx1 q hq)) q1⟩
  · have hi : i < 4 := by
      have h9 := (List.getElem?_eq_some_iff.mp hq).1
      exact h9
    have h7 := hts _ (zs_w7 i hi)
    have h8 := hev i hi
    rcases (show i = 0 ∨ i = 1 ∨ i = 2 ∨ i = 3 by omega) with rfl | rfl | rfl | rfl <;> (cases hq; exact vk_R.of h7 h8)
theorem zs_arr {s : State} {args : Array Value} {ty : FieldType} (h : (Cond.arrayClass ty).before args s = true) (hRA : ∀ cA : ClassId, s.vm.findClass ("[" ++ ty.toString) = some cA → va_RA s cA ty) : ∃ cA : ClassId, ArrOfT s cA ty ∧ va_RA s cA ty := by
  obtain ⟨cA, kA, comp, h1, h2, h3⟩ := Cond.arrayClass_spec (args := args) (first := s) (o := none) (s := s) (idx := []) h
  exact ⟨cA, fun n z => ⟨fun k h => (by cases h), kA, h2, comp, h3⟩, hRA cA h1⟩
theorem zs_arq {s : State} {args : Array Value} {C : String} (h : (Cond.arrayOver (.object C)).before args s = true) : ∃ cA : ClassId, ArrOfT s cA (.object C) ∧ va_RA s cA (.object C) := by
  obtain ⟨comp, cA, kA, q1, q2, q3, q4, q5⟩ := Cond.arrayOver_spec (args := args) (first := s) (o := none) (s := s) (idx := []) h
  exact ⟨cA, fun n z => ⟨fun k h => (by cases h), kA, q3, comp, q4⟩, kA, comp, q3, q4, q1, q5⟩
theorem zs_know {s : State} {b : Nat} (hts : ∀ w ∈ lw_tbl, w.before #[Value.ref b] s = true) : ∃ G : zz_G, zc_K G s := by
  obtain ⟨c0, i0, k0⟩ := u_known (C := RX0) (T := TX0) (N := 9) (n := 9) hts inX0 (hts (.instantiable RX0 9) (by decide +kernel))
  obtain ⟨c1, i1, k1⟩ := u_known (C := RX1) (T := TX1) (N := 4) (n := 4) hts inX1 (hts (.instantiable RX1 4) (by decide +kernel))
  obtain ⟨c2, i2, k2⟩ := u_known (C := RX2) (T := TX2) (N := 8) (n := 8) hts inX2 (hts (.instantiable RX2 8) (by decide +kernel))
  obtain ⟨c3, i3, k3⟩ := u_known (C := RX3) (T := TX3) (N := 11) (n := 11) hts inX3 (hts (.instantiable RX3 11) (by decide +kernel))
  obtain ⟨t0, g0⟩ := zs_arr (ty := .int) (hts (.arrayClass .int) (by decide +kernel)) (fun _ h => h)
  obtain ⟨t1, g1⟩ := zs_arr (ty := .char) (hts (.arrayClass .char) (by decide +kernel)) (fun _ h => h)
  obtain ⟨t2, g2⟩ := zs_arq (C := RX0) (hts (.arrayOver (.object RX0)) (by decide +kernel))
  obtain ⟨t3, g3⟩ := zs_arq (C := RX2) (hts (.arrayOver (.object RX2)) (by decide +kernel))
  refine ⟨((fun k => match k with | 0 => c0 | 1 => c1 | 2 => c2 | _ => c3, fun k => match k with | 0 => i0 | 1 => i1 | 2 => i2 | _ => i3), fun k => match k with | 0 => t0 | 1 => t1 | 2 => t2 | _ => t3, []), ⟨fun k q hq => ?_, fun k q hq => ?_⟩, va_AO.of (hts (.arrayOver (.object RX0)) (by decide +kernel)), va_AO.of (hts (.arrayOver (.object RX2)) (by decide +kernel))⟩
  · match k, hq with
    | 0, hq => cases hq; exact k0
    | 1, hq => cases hq; exact k1
    | 2, hq => cases hq; exact k2
    | 3, hq => cases hq; exact k3
    | k + 4, hq => simp [vwCl] at hq
  · match k, hq with
    | 0, hq => cases hq; exact g0
    | 1, hq => cases hq; exact g1
    | 2, hq => cases hq; exact g2
    | 3, hq => cases hq; exact g3
    | k + 4, hq => simp [zz_T] at hq
