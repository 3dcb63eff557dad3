/-! what holds of a hall between the law's steps -/
def zi_A (T : zz_S) : Prop := T 0 1 = 0 ∧ zz_rr T 1 7 0 65535
def zi_B (T : zz_S) : Prop := (0 ≤ T 0 3 ∧ T 0 3 ≤ 10) ∧ zz_rr T 2 10 (-1) 9
def zi_C (T : zz_S) : Prop := 0 ≤ T 0 10 ∧ T 0 10 ≤ 5000
def zi_D (T : zz_S) (n : Nat) : Prop := (0 ≤ T 3 3 ∧ T 3 3 ≤ (n : Int)) ∧ zz_rr T 6 512 (-1) 9 ∧ ∀ j : Nat, (j : Int) < T 3 3 → (0 ≤ T 4 j ∧ T 4 j < T 0 3) ∧ T 5 j ≤ T 0 10 ∧ (-1 ≤ T 6 j ∧ T 6 j < T 0 3)
def zi_E (T : zz_S) (n : Nat) : Prop := (0 ≤ T 7 3 ∧ T 7 3 ≤ (n : Int)) ∧ ∀ j : Nat, (j : Int) < T 7 3 → 0 ≤ T 10 j ∧ T 10 j ≤ 100
def zi_f (T : zz_S) (i : Nat) : Prop := (0 ≤ T (13 + i) 0 ∧ T (13 + i) 0 ≤ 9) ∧ (0 ≤ T (13 + i) 1 ∧ T (13 + i) 1 ≤ 3) ∧ (0 ≤ T (13 + i) 2 ∧ T (13 + i) 2 ≤ 5000) ∧ (0 ≤ T (13 + i) 3 ∧ T (13 + i) 3 ≤ 100) ∧ (0 ≤ T (13 + i) 4 ∧ T (13 + i) 4 ≤ 1000) ∧ (0 ≤ T (13 + i) 5 ∧ T (13 + i) 5 ≤ 1) ∧ (0 ≤ T (13 + i) 6 ∧ T (13 + i) 6 ≤ 1) ∧ (-1 ≤ T (13 + i) 7 ∧ T (13 + i) 7 ≤ 1000) ∧ ((i : Int) < T 0 7 → T (13 + i) 0 < T 0 3) ∧ (T 0 7 ≤ (i : Int) → T (13 + i) 7 = -1)
def zi_F (T : zz_S) : Prop := (0 ≤ T 0 7 ∧ T 0 7 ≤ 24) ∧ ∀ i : Nat, i < 24 → zi_f T i
def zi_G (T : zz_S) : Prop := ∀ i p : Nat, i < 24 → p < 10 → (-1 ≤ T (37 + i) p ∧ T (37 + i) p ≤ 5000) ∧ (3 ≤ p → T (37 + i) p = -1) ∧ (T 0 7 ≤ (i : Int) → T (37 + i) p = -1)
def zi_h (T : zz_S) (c : Nat) : Prop := (0 ≤ T (61 + c) 0 ∧ T (61 + c) 0 ≤ 23) ∧ (0 ≤ T (61 + c) 1 ∧ T (61 + c) 1 ≤ 2) ∧ (0 ≤ T (61 + c) 2 ∧ T (61 + c) 2 ≤ 60) ∧ (0 ≤ T (61 + c) 3 ∧ T (61 + c) 3 ≤ 7) ∧ (0 ≤ T (61 + c) 4 ∧ T (61 + c) 4 ≤ 2) ∧ (0 ≤ T (61 + c) 5 ∧ T (61 + c) 5 ≤ 5000) ∧ (0 ≤ T (61 + c) 6 ∧ T (61 + c) 6 ≤ 1) ∧ (-1 ≤ T (61 + c) 7 ∧ T (61 + c) 7 ≤ 3) ∧ (T (61 + c) 4 = 1 → T (61 + c) 5 ≤ T 0 10) ∧ ((c : Int) < T 0 9 → T (61 + c) 0 < T 0 7 ∧ 1 ≤ T (61 + c) 3) ∧ (T 0 9 ≤ (c : Int) → T (61 + c) 3 = 0) ∧ (T (61 + c) 1 = 1 → 0 ≤ T (61 + c) 7)
def zi_H (T : zz_S) : Prop := (0 ≤ T 0 9 ∧ T 0 9 ≤ 16) ∧ ∀ c : Nat, c < 16 → zi_h T c
/-- .. with at most n rows of delegations and of limits -/
def zi_ (T : zz_S) (n : Nat) : Prop := zi_A T ∧ zi_B T ∧ zi_C T ∧ zi_D T n ∧ zi_E T n ∧ zi_F T ∧ zi_G T ∧ zi_H T
theorem zi_IC {T : zz_S} {n : Nat} (hn : n ≤ 512) (h : zi_ T n) : zz_IC T := by
  obtain ⟨hA, hB, hC, hD, hE, hF, hG, hH⟩ := h
  have hD1 := hD.1
  have hE1 := hE.1
  have hA1 := hA.1
  refine ⟨⟨by omega, by omega⟩, hB.1, hF.1, hH.1, hC, ⟨hD1.1, by omega⟩, ⟨hE1.1, by omega⟩, hB.2, hD.2.1, fun j hj => ?_, fun j hj => ?_, fun j hj => ?_, fun j hj => ?_, fun j hj => ?_, fun j hj => ?_, fun j hj => ?_, fun j hj => ?_, fun i hi j hj => (hG i j hi hj).1, fun j hj => ?_, fun j hj => ?_, fun j hj => ?_, fun j hj => ?_, fun j hj => ?_, fun j hj => ?_, fun j hj => ?_, fun j hj => ?_, fun j hj => ?_, hA.2⟩
  · exact (hF.2 j hj).1
  · exact (hF.2 j hj).2.1
  · exact (hF.2 j hj).2.2.1
  · exact (hF.2 j hj).2.2.2.1
  · exact (hF.2 j hj).2.2.2.2.1
  · exact (hF.2 j hj).2.2.2.2.2.1
  · exact (hF.2 j hj).2.2.2.2.2.2.1
  · exact (hF.2 j hj).2.2.2.2.2.2.2.1
  · exact (hH.2 j hj).1
  · exact (hH.2 j hj).2.1
  · exact (hH.2 j hj).2.2.1
  · have h9 := (hH.2 j hj).2.2.2.1
    exact ⟨h9.1, by omega⟩
  · exact (hH.2 j hj).2.2.2.2.1
  · exact (hH.2 j hj).2.2.2.2.2.1
  · exact (hH.2 j hj).2.2.2.2.2.2.1
  · exact (hH.2 j hj).2.2.2.2.2.2.2.1
  · exact (hH.2 j hj).2.2.2.2.2.2.2.2.1
theorem zi_A_tr {S T : zz_S} (h1 : T 0 1 = S 0 1) (h2 : T 1 = S 1) (h : zi_A S) : zi_A T := by
  unfold zi_A zz_rr at *
  rw [h1, h2]
  exact h
theorem zi_B_tr {S T : zz_S} (h1 : T 0 3 = S 0 3) (h2 : T 2 = S 2) (h : zi_B S) : zi_B T := by
  unfold zi_B zz_rr at *
  rw [h1, h2]
  exact h
theorem zi_C_tr {S T : zz_S} (h1 : T 0 10 = S 0 10) (h : zi_C S) : zi_C T := by
  unfold zi_C at *
  rw [h1]
  exact h
theorem zi_D_tr {S T : zz_S} {n n' : Nat} (hn : n ≤ n') (h1 : T 3 3 = S 3 3) (h2 : T 4 = S 4) (h3 : T 5 = S 5) (h4 : T 6 = S 6) (h5 : S 0 3 ≤ T 0 3) (h6 : S 0 10 ≤ T 0 10) (h : zi_D S n) : zi_D T n' := by
  obtain ⟨d1, d2, d3⟩ := h
  unfold zi_D zz_rr at *
  rw [h1, h2, h3, h4]
  refine ⟨⟨d1.1, by omega⟩, d2, fun j hj => ?_⟩
  have h9 := d3 j hj
  omega
theorem zi_E_tr {S T : zz_S} {n n' : Nat} (hn : n ≤ n') (h1 : T 7 3 = S 7 3) (h2 : T 10 = S 10) (h : zi_E S n) : zi_E T n' := by
  obtain ⟨d1, d3⟩ := h
  unfold zi_E at *
  rw [h1, h2]
  exact ⟨⟨d1.1, by omega⟩, d3⟩
theorem zi_f_tr {S T : zz_S} {i : Nat} (h0 : T 0 7 = S 0 7) (h1 : T (13 + i) = S (13 + i)) (h2 : S 0 3 ≤ T 0 3) (h : zi_f S i) : zi_f T i := by
  unfold zi_f at *
  rw [h0, h1]
  obtain ⟨g1, g2, g3, g4, g5, g6, g7, g8, g9, g10⟩ := h
  exact ⟨g1, g2, g3, g4, g5, g6, g7, g8, fun z => by have h9 := g9 z; omega, g10⟩
theorem zi_F_tr {S T : zz_S} (h0 : T 0 7 = S 0 7) (h1 : ∀ i : Nat, i < 24 → T (13 + i) = S (13 + i)) (h2 : S 0 3 ≤ T 0 3) (h : zi_F S) : zi_F T :=
  ⟨by rw [h0]; exact h.1, fun i hi => zi_f_tr h0 (h1 i hi) h2 (h.2 i hi)⟩
theorem zi_G_tr {S T : zz_S} (h0 : T 0 7 = S 0 7) (h1 : ∀ i : Nat, i < 24 → T (37 + i) = S (37 + i)) (h : zi_G S) : zi_G T := by
  intro i p hi hp
  rw [h0, h1 i hi]
  exact h i p hi hp
theorem zi_h_tr {S T : zz_S} {c : Nat} (h0 : T 0 9 = S 0 9) (h1 : T (61 + c) = S (61 + c)) (h2 : S 0 10 ≤ T 0 10) (h3 : S 0 7 ≤ T 0 7) (h : zi_h S c) : zi_h T c := by
  unfold zi_h at *
  rw [h0, h1]
  obtain ⟨g1, g2, g3, g4, g5, g6, g7, g8, g9, g10, g11, g12⟩ := h
  exact ⟨g1, g2, g3, g4, g5, g6, g7, g8, fun z => by have h9 := g9 z; omega, fun z => by have h9 := g10 z; omega, g11, g12⟩
theorem zi_H_tr {S T : zz_S} (h0 : T 0 9 = S 0 9) (h1 : ∀ c : Nat, c < 16 → T (61 + c) = S (61 + c)) (h2 : S 0 10 ≤ T 0 10) (h3 : S 0 7 ≤ T 0 7) (h : zi_H S) : zi_H T :=
  ⟨by rw [h0]; exact h.1, fun c hc => zi_h_tr h0 (h1 c hc) h2 h3 (h.2 c hc)⟩
theorem zi_wide {T : zz_S} {n n' : Nat} (hn : n ≤ n') (h : zi_ T n) : zi_ T n' := by
  obtain ⟨hA, hB, hC, hD, hE, hF, hG, hH⟩ := h
  exact ⟨hA, hB, hC, zi_D_tr hn rfl rfl rfl rfl (by omega) (by omega) hD, zi_E_tr hn rfl rfl hE, hF, hG, hH⟩
/-! changes that are told: the newest counts, twice the same is once -/
theorem zi_vo_ext {th th' da da' va va' : Nat → Int} {t d z : Int} : ∀ n : Nat, (∀ j : Nat, j < n → th j = th' j) → (∀ j : Nat, j < n → da j = da' j) → (∀ j : Nat, j < n → va j = va' j) → zz_vo th da va t d z n = zz_vo th' da' va' t d z n
  | 0, _, _, _ => rfl
  | n + 1, h1, h2, h3 => by
    rw [zz_vo, zz_vo, h1 n (by omega), h2 n (by omega), h3 n (by omega), zi_vo_ext n (fun j hj => h1 j (by omega)) (fun j hj => h2 j (by omega)) (fun j hj => h3 j (by omega))]
theorem zi_vo_up {th da va : Nat → Int} {t d z x y w : Int} {c : Nat} : zz_vo (va_up th c x) (va_up da c y) (va_up va c w) t d z (c + 1) = if x = t ∧ y ≤ d then w else zz_vo th da va t d z c := by
  rw [zz_vo, va_up_self, va_up_self, va_up_self, zi_vo_ext (th' := th) (da' := da) (va' := va) c (fun j hj => va_up_ne _ _ (by omega)) (fun j hj => va_up_ne _ _ (by omega)) (fun j hj => va_up_ne _ _ (by omega))]
theorem zi_vo_up2 {th da va : Nat → Int} {t d z x y w : Int} {c : Nat} : zz_vo (va_up (va_up th c x) (c + 1) x) (va_up (va_up da c y) (c + 1) y) (va_up (va_up va c w) (c + 1) w) t d z (c + 2) = zz_vo (va_up th c x) (va_up da c y) (va_up va c w) t d z (c + 1) := by
  rw [show c + 2 = (c + 1) + 1 from rfl, zi_vo_up, zi_vo_up]
  by_cases q : x = t ∧ y ≤ d
  · rw [if_pos q, if_pos q]
  · rw [if_neg q]
theorem zi_vo_none {th da va : Nat → Int} {t d z : Int} : ∀ n : Nat, (∀ j : Nat, j < n → ¬ th j = t) → zz_vo th da va t d z n = z
  | 0, _ => rfl
  | n + 1, h => by
    rw [zz_vo, if_neg (fun q => h n (by omega) q.1)]
    exact zi_vo_none n (fun j hj => h j (by omega))
theorem zi_oo_ext {th da va th' da' va' : Nat → Int} {c c' : Nat} {d : Int} (h : ∀ o : Int, zz_vo th da va o d (-1) c = zz_vo th' da' va' o d (-1) c') : ∀ (n : Nat) (o : Int), zz_oo th da va c d n o = zz_oo th' da' va' c' d n o
  | 0, o => rfl
  | n + 1, o => by
    rw [zz_oo, zz_oo, h o]
    by_cases q : zz_vo th' da' va' o d (-1) c' = -1
    · rw [if_pos q, if_pos q]
    · rw [if_neg q, if_neg q]
      exact zi_oo_ext h n _
theorem zi_oo_rng {th da va : Nat → Int} {m d : Int} {c : Nat} (h : ∀ j : Nat, j < c → -1 ≤ va j ∧ va j < m) (hm : 0 ≤ m) : ∀ (n : Nat) (o : Int), (0 ≤ o ∧ o < m) → 0 ≤ zz_oo th da va c d n o ∧ zz_oo th da va c d n o < m
  | 0, o, ho => ho
  | n + 1, o, ho => by
    have h9 := zz_vo_rng (th := th) (da := da) (va := va) (lo := -1) (hi := m - 1) (t := o) (d := d) (z := -1) (by omega) (n := c) (fun j hj => by have h8 := h j hj; omega)
    rw [zz_oo]
    split
    · exact ho
    · exact zi_oo_rng h hm n _ (by omega)
theorem zi_oo_1 {th da va : Nat → Int} {d o : Int} {c n : Nat} (h : zz_vo th da va o d (-1) c = -1) : zz_oo th da va c d (n + 1) o = o := by
  rw [zz_oo, if_pos h]
/-- whose act one of the office x would be on the day d -/
def zi_wh (T : zz_S) (d x : Int) : Int := zz_oo (T 4) (T 5) (T 6) (T 3 3).toNat d 10 x
theorem zi_own {T : zz_S} {n : Nat} {d x : Int} (h : zi_ T n) (hx : 0 ≤ x ∧ x < T 0 3) : 0 ≤ zi_wh T d x ∧ zi_wh T d x < T 0 3 := by
  obtain ⟨hA, hB, hC, hD, hE, hF, hG, hH⟩ := h
  exact zi_oo_rng (fun j hj => (hD.2.2 j (by omega)).2.2) (by omega) 10 x hx

def zk_oS (T : zz_S) (x : Int) : zz_S := zz_u (zz_u T 2 (T 0 3).toNat x) 0 3 (T 0 3 + 1)
theorem zk_office {T : zz_S} {n : Nat} {x : Int} (h : zi_ T n) (hx : x = -1 ∨ (0 ≤ x ∧ x < T 0 3)) (ho : T 0 3 < 10) : zi_ (zk_oS T x) n ∧ zi_wh (zk_oS T x) (T 0 10) (T 0 3) = T 0 3 ∧ zk_oS T x 0 3 = T 0 3 + 1 ∧ zk_oS T x 0 7 = T 0 7 ∧ zk_oS T x 0 9 = T 0 9 ∧ zk_oS T x 0 10 = T 0 10 := by
  obtain ⟨hA, hB, hC, hD, hE, hF, hG, hH⟩ := h
  have hb := hB.1
  have e3 : zk_oS T x 0 3 = T 0 3 + 1 := by unfold zk_oS; rw [zz_u_same]
  refine ⟨⟨?_, ?_, ?_, ?_, ?_, ?_, ?_, ?_⟩, ?_, e3, ?_, ?_, ?_⟩
  · unfold zk_oS; exact zi_A_tr (by simp (disch := omega) only [zz_u_off, zz_u_ne, zz_u_same]) (by simp (disch := omega) only [zz_u_off, zz_u_ne, zz_u_same]) hA
  · refine ⟨by omega, fun j hj => ?_⟩
    unfold zk_oS
    rw [zz_u_off _ _ (by omega), zz_u_row]
    by_cases q : j = (T 0 3).toNat
    · rw [q, va_up_self]; omega
    · rw [va_up_ne _ _ q]; exact hB.2 j hj
  · unfold zk_oS; exact zi_C_tr (by simp (disch := omega) only [zz_u_off, zz_u_ne, zz_u_same]) hC
  · unfold zk_oS; exact zi_D_tr (Nat.le_refl _) (by simp (disch := omega) only [zz_u_off, zz_u_ne, zz_u_same]) (by simp (disch := omega) only [zz_u_off, zz_u_ne, zz_u_same]) (by simp (disch := omega) only [zz_u_off, zz_u_ne, zz_u_same]) (by simp (disch := omega) only [zz_u_off, zz_u_ne, zz_u_same]) (by first | (simp (disch := omega) only [zz_u_off, zz_u_ne, zz_u_same]; omega) | (simp (disch := omega) only [zz_u_off, zz_u_ne, zz_u_same]; exact Int.le_refl _) | (simp (disch := omega) only [zz_u_off, zz_u_ne, zz_u_same, Int.le_refl])) (by first | (simp (disch := omega) only [zz_u_off, zz_u_ne, zz_u_same]; omega) | (simp (disch := omega) only [zz_u_off, zz_u_ne, zz_u_same]; exact Int.le_refl _) | (simp (disch := omega) only [zz_u_off, zz_u_ne, zz_u_same, Int.le_refl])) hD
  · unfold zk_oS; exact zi_E_tr (Nat.le_refl _) (by simp (disch := omega) only [zz_u_off, zz_u_ne, zz_u_same]) (by simp (disch := omega) only [zz_u_off, zz_u_ne, zz_u_same]) hE
  · unfold zk_oS; exact zi_F_tr (by simp (disch := omega) only [zz_u_off, zz_u_ne, zz_u_same]) (fun i hi => (by simp (disch := omega) only [zz_u_off, zz_u_ne, zz_u_same])) (by first | (simp (disch := omega) only [zz_u_off, zz_u_ne, zz_u_same]; omega) | (simp (disch := omega) only [zz_u_off, zz_u_ne, zz_u_same]; exact Int.le_refl _) | (simp (disch := omega) only [zz_u_off, zz_u_ne, zz_u_same, Int.le_refl])) hF
  · unfold zk_oS; exact zi_G_tr (by simp (disch := omega) only [zz_u_off, zz_u_ne, zz_u_same]) (fun i hi => (by simp (disch := omega) only [zz_u_off, zz_u_ne, zz_u_same])) hG
  · unfold zk_oS; exact zi_H_tr (by simp (disch := omega) only [zz_u_off, zz_u_ne, zz_u_same]) (fun c hc => (by simp (disch := omega) only [zz_u_off, zz_u_ne, zz_u_same])) (by first | (simp (disch := omega) only [zz_u_off, zz_u_ne, zz_u_same]; omega) | (simp (disch := omega) only [zz_u_off, zz_u_ne, zz_u_same]; exact Int.le_refl _) | (simp (disch := omega) only [zz_u_off, zz_u_ne, zz_u_same, Int.le_refl])) (by first | (simp (disch := omega) only [zz_u_off, zz_u_ne, zz_u_same]; omega) | (simp (disch := omega) only [zz_u_off, zz_u_ne, zz_u_same]; exact Int.le_refl _) | (simp (disch := omega) only [zz_u_off, zz_u_ne, zz_u_same, Int.le_refl])) hH
  · refine zi_oo_1 (zi_vo_none _ (fun j hj => ?_))
    have e1 : zk_oS T x 3 3 = T 3 3 := by unfold zk_oS; simp (disch := omega) only [zz_u_off, zz_u_ne, zz_u_same]
    have e2 : zk_oS T x 4 = T 4 := by unfold zk_oS; simp (disch := omega) only [zz_u_off, zz_u_ne, zz_u_same]
    rw [e1] at hj
    rw [e2]
    have h9 := hD.2.2 j (by omega)
    omega
  · unfold zk_oS; simp (disch := omega) only [zz_u_off, zz_u_ne, zz_u_same]
  · unfold zk_oS; simp (disch := omega) only [zz_u_off, zz_u_ne, zz_u_same]
  · unfold zk_oS; simp (disch := omega) only [zz_u_off, zz_u_ne, zz_u_same]
def zk_dS (T : zz_S) (x y : Int) : zz_S := zz_u (zz_u (zz_u (zz_u T 4 (T 3 3).toNat x) 5 (T 3 3).toNat (T 0 10)) 6 (T 3 3).toNat y) 3 3 (T 3 3 + 1)
theorem zk_dr (T : zz_S) (x y : Int) : zk_dS T x y 3 3 = T 3 3 + 1 ∧ zk_dS T x y 4 = va_up (T 4) (T 3 3).toNat x ∧ zk_dS T x y 5 = va_up (T 5) (T 3 3).toNat (T 0 10) ∧ zk_dS T x y 6 = va_up (T 6) (T 3 3).toNat y := by
  unfold zk_dS
  refine ⟨by rw [zz_u_same], ?_, ?_, ?_⟩
  · rw [zz_u_off _ _ (by omega), zz_u_off _ _ (by omega), zz_u_off _ _ (by omega), zz_u_row]
  · rw [zz_u_off _ _ (by omega), zz_u_off _ _ (by omega), zz_u_row, zz_u_off _ _ (by omega)]
  · rw [zz_u_off _ _ (by omega), zz_u_row, zz_u_off _ _ (by omega), zz_u_off _ _ (by omega)]
theorem zk_d0 (T : zz_S) (x y : Int) : zk_dS T x y 0 = T 0 := by
  unfold zk_dS
  simp (disch := omega) only [zz_u_off, zz_u_ne, zz_u_same]
theorem zk_delegate {T : zz_S} {n : Nat} {x y : Int} (h : zi_ T n) (hn : n < 512) (hx : 0 ≤ x ∧ x < T 0 3) (hy : y = -1 ∨ (0 ≤ y ∧ y < T 0 3)) : zi_ (zk_dS T x y) (n + 1) ∧ (-1 ≤ zz_vo (T 4) (T 5) (T 6) x (T 0 10) (-1) (T 3 3).toNat ∧ zz_vo (T 4) (T 5) (T 6) x (T 0 10) (-1) (T 3 3).toNat < T 0 3) ∧ (y = -1 → zi_wh (zk_dS T x y) (T 0 10) x = x) ∧ zz_vo (zk_dS T x y 4) (zk_dS T x y 5) (zk_dS T x y 6) x (T 0 10) (-1) (zk_dS T x y 3 3).toNat = y ∧ zi_wh (zk_dS (zk_dS T x y) x y) (T 0 10) x = zi_wh (zk_dS T x y) (T 0 10) x := by
  obtain ⟨hA, hB, hC, hD, hE, hF, hG, hH⟩ := h
  obtain ⟨r1, r2, r3, r4⟩ := zk_dr T x y
  have r0 := zk_d0 T x y
  obtain ⟨hD1, hD2, hD3⟩ := hD
  have hb := hB.1
  have htn : (T 3 3 + 1).toNat = (T 3 3).toNat + 1 := by omega
  have hv : ∀ t : Int, zz_vo (zk_dS T x y 4) (zk_dS T x y 5) (zk_dS T x y 6) t (T 0 10) (-1) (zk_dS T x y 3 3).toNat = if x = t ∧ T 0 10 ≤ T 0 10 then y else zz_vo (T 4) (T 5) (T 6) t (T 0 10) (-1) (T 3 3).toNat := by
    intro t
    rw [r1, r2, r3, r4, htn]
    exact zi_vo_up
  have hvx := hv x
  rw [if_pos ⟨rfl, Int.le_refl _⟩] at hvx
  refine ⟨⟨?_, ?_, ?_, ?_, ?_, ?_, ?_, ?_⟩, ?_, ?_, hvx, ?_⟩
  · unfold zk_dS; exact zi_A_tr (by simp (disch := omega) only [zz_u_off, zz_u_ne, zz_u_same]) (by simp (disch := omega) only [zz_u_off, zz_u_ne, zz_u_same]) hA
  · unfold zk_dS; exact zi_B_tr (by simp (disch := omega) only [zz_u_off, zz_u_ne, zz_u_same]) (by simp (disch := omega) only [zz_u_off, zz_u_ne, zz_u_same]) hB
  · unfold zk_dS; exact zi_C_tr (by simp (disch := omega) only [zz_u_off, zz_u_ne, zz_u_same]) hC
  · unfold zi_D zz_rr
    rw [r0, r1, r2, r3, r4]
    refine ⟨by omega, fun j hj => ?_, fun j hj => ?_⟩
    · by_cases q : j = (T 3 3).toNat
      · rw [q, va_up_self]; omega
      · rw [va_up_ne _ _ q]; exact hD2 j hj
    · by_cases q : j = (T 3 3).toNat
      · rw [q, va_up_self, va_up_self, va_up_self]; omega
      · rw [va_up_ne _ _ q, va_up_ne _ _ q, va_up_ne _ _ q]
        exact hD3 j (by omega)
  · unfold zk_dS; exact zi_E_tr (Nat.le_succ _) (by simp (disch := omega) only [zz_u_off, zz_u_ne, zz_u_same]) (by simp (disch := omega) only [zz_u_off, zz_u_ne, zz_u_same]) hE
  · unfold zk_dS; exact zi_F_tr (by simp (disch := omega) only [zz_u_off, zz_u_ne, zz_u_same]) (fun i hi => (by simp (disch := omega) only [zz_u_off, zz_u_ne, zz_u_same])) (by first | (simp (disch := omega) only [zz_u_off, zz_u_ne, zz_u_same]; omega) | (simp (disch := omega) only [zz_u_off, zz_u_ne, zz_u_same]; exact Int.le_refl _) | (simp (disch := omega) only [zz_u_off, zz_u_ne, zz_u_same, Int.le_refl])) hF
  · unfold zk_dS; exact zi_G_tr (by simp (disch := omega) only [zz_u_off, zz_u_ne, zz_u_same]) (fun i hi => (by simp (disch := omega) only [zz_u_off, zz_u_ne, zz_u_same])) hG
  · unfold zk_dS; exact zi_H_tr (by simp (disch := omega) only [zz_u_off, zz_u_ne, zz_u_same]) (fun c hc => (by simp (disch := omega) only [zz_u_off, zz_u_ne, zz_u_same])) (by first | (simp (disch := omega) only [zz_u_off, zz_u_ne, zz_u_same]; omega) | (simp (disch := omega) only [zz_u_off, zz_u_ne, zz_u_same]; exact Int.le_refl _) | (simp (disch := omega) only [zz_u_off, zz_u_ne, zz_u_same, Int.le_refl])) (by first | (simp (disch := omega) only [zz_u_off, zz_u_ne, zz_u_same]; omega) | (simp (disch := omega) only [zz_u_off, zz_u_ne, zz_u_same]; exact Int.le_refl _) | (simp (disch := omega) only [zz_u_off, zz_u_ne, zz_u_same, Int.le_refl])) hH
  · have h9 := zz_vo_rng (th := T 4) (da := T 5) (va := T 6) (lo := -1) (hi := T 0 3 - 1) (t := x) (d := T 0 10) (z := -1) (by omega) (n := (T 3 3).toNat) (fun j hj => by have h8 := hD3 j (by omega); omega)
    omega
  · intro q
    exact zi_oo_1 (hvx.trans q)
  · unfold zi_wh
    obtain ⟨s1, s2, s3, s4⟩ := zk_dr (zk_dS T x y) x y
    refine zi_oo_ext (fun t => ?_) 10 x
    rw [s1, s2, s3, s4, r0, r1, r2, r3, r4, htn, show (T 3 3 + 1 + 1).toNat = (T 3 3).toNat + 2 by omega]
    exact zi_vo_up2
def zk_lS (T : zz_S) (x y : Int) : zz_S := zz_u (zz_u (zz_u (zz_u T 8 (T 7 3).toNat x) 9 (T 7 3).toNat (T 0 10)) 10 (T 7 3).toNat y) 7 3 (T 7 3 + 1)
theorem zk_lr (T : zz_S) (x y : Int) : zk_lS T x y 7 3 = T 7 3 + 1 ∧ zk_lS T x y 8 = va_up (T 8) (T 7 3).toNat x ∧ zk_lS T x y 9 = va_up (T 9) (T 7 3).toNat (T 0 10) ∧ zk_lS T x y 10 = va_up (T 10) (T 7 3).toNat y := by
  unfold zk_lS
  refine ⟨by rw [zz_u_same], ?_, ?_, ?_⟩
  · rw [zz_u_off _ _ (by omega), zz_u_off _ _ (by omega), zz_u_off _ _ (by omega), zz_u_row]
  · rw [zz_u_off _ _ (by omega), zz_u_off _ _ (by omega), zz_u_row, zz_u_off _ _ (by omega)]
  · rw [zz_u_off _ _ (by omega), zz_u_row, zz_u_off _ _ (by omega), zz_u_off _ _ (by omega)]
theorem zk_l0 (T : zz_S) (x y : Int) : zk_lS T x y 0 = T 0 := by
  unfold zk_lS
  simp (disch := omega) only [zz_u_off, zz_u_ne, zz_u_same]
theorem zk_limit {T : zz_S} {n : Nat} {x y : Int} (h : zi_ T n) (hn : n < 512) (hx : 0 ≤ x ∧ x < 4) (hy : 0 ≤ y ∧ y ≤ 100) : zi_ (zk_lS T x y) (n + 1) ∧ (0 ≤ zz_vo (T 8) (T 9) (T 10) x (T 0 10) 30 (T 7 3).toNat ∧ zz_vo (T 8) (T 9) (T 10) x (T 0 10) 30 (T 7 3).toNat ≤ 100) ∧ zz_vo (zk_lS T x y 8) (zk_lS T x y 9) (zk_lS T x y 10) x (T 0 10) 30 (zk_lS T x y 7 3).toNat = y := by
  obtain ⟨hA, hB, hC, hD, hE, hF, hG, hH⟩ := h
  obtain ⟨r1, r2, r3, r4⟩ := zk_lr T x y
  have r0 := zk_l0 T x y
  obtain ⟨hE1, hE3⟩ := hE
  have htn : (T 7 3 + 1).toNat = (T 7 3).toNat + 1 := by omega
  refine ⟨⟨?_, ?_, ?_, ?_, ?_, ?_, ?_, ?_⟩, ?_, ?_⟩
  · unfold zk_lS; exact zi_A_tr (by simp (disch := omega) only [zz_u_off, zz_u_ne, zz_u_same]) (by simp (disch := omega) only [zz_u_off, zz_u_ne, zz_u_same]) hA
  · unfold zk_lS; exact zi_B_tr (by simp (disch := omega) only [zz_u_off, zz_u_ne, zz_u_same]) (by simp (disch := omega) only [zz_u_off, zz_u_ne, zz_u_same]) hB
  · unfold zk_lS; exact zi_C_tr (by simp (disch := omega) only [zz_u_off, zz_u_ne, zz_u_same]) hC
  · unfold zk_lS; exact zi_D_tr (Nat.le_succ _) (by simp (disch := omega) only [zz_u_off, zz_u_ne, zz_u_same]) (by simp (disch := omega) only [zz_u_off, zz_u_ne, zz_u_same]) (by simp (disch := omega) only [zz_u_off, zz_u_ne, zz_u_same]) (by simp (disch := omega) only [zz_u_off, zz_u_ne, zz_u_same]) (by first | (simp (disch := omega) only [zz_u_off, zz_u_ne, zz_u_same]; omega) | (simp (disch := omega) only [zz_u_off, zz_u_ne, zz_u_same]; exact Int.le_refl _) | (simp (disch := omega) only [zz_u_off, zz_u_ne, zz_u_same, Int.le_refl])) (by first | (simp (disch := omega) only [zz_u_off, zz_u_ne, zz_u_same]; omega) | (simp (disch := omega) only [zz_u_off, zz_u_ne, zz_u_same]; exact Int.le_refl _) | (simp (disch := omega) only [zz_u_off, zz_u_ne, zz_u_same, Int.le_refl])) hD
  · unfold zi_E
    rw [r1, r4]
    refine ⟨by omega, fun j hj => ?_⟩
    by_cases q : j = (T 7 3).toNat
    · rw [q, va_up_self]; omega
    · rw [va_up_ne _ _ q]
      exact hE3 j (by omega)
  · unfold zk_lS; exact zi_F_tr (by simp (disch := omega) only [zz_u_off, zz_u_ne, zz_u_same]) (fun i hi => (by simp (disch := omega) only [zz_u_off, zz_u_ne, zz_u_same])) (by first | (simp (disch := omega) only [zz_u_off, zz_u_ne, zz_u_same]; omega) | (simp (disch := omega) only [zz_u_off, zz_u_ne, zz_u_same]; exact Int.le_refl _) | (simp (disch := omega) only [zz_u_off, zz_u_ne, zz_u_same, Int.le_refl])) hF
  · unfold zk_lS; exact zi_G_tr (by simp (disch := omega) only [zz_u_off, zz_u_ne, zz_u_same]) (fun i hi => (by simp (disch := omega) only [zz_u_off, zz_u_ne, zz_u_same])) hG
  · unfold zk_lS; exact zi_H_tr (by simp (disch := omega) only [zz_u_off, zz_u_ne, zz_u_same]) (fun c hc => (by simp (disch := omega) only [zz_u_off, zz_u_ne, zz_u_same])) (by first | (simp (disch := omega) only [zz_u_off, zz_u_ne, zz_u_same]; omega) | (simp (disch := omega) only [zz_u_off, zz_u_ne, zz_u_same]; exact Int.le_refl _) | (simp (disch := omega) only [zz_u_off, zz_u_ne, zz_u_same, Int.le_refl])) (by first | (simp (disch := omega) only [zz_u_off, zz_u_ne, zz_u_same]; omega) | (simp (disch := omega) only [zz_u_off, zz_u_ne, zz_u_same]; exact Int.le_refl _) | (simp (disch := omega) only [zz_u_off, zz_u_ne, zz_u_same, Int.le_refl])) hH
  · exact zz_vo_rng (by omega) (fun j hj => hE3 j (by omega))
  · rw [r1, r2, r3, r4, htn]
    exact zi_vo_up.trans (if_pos ⟨rfl, Int.le_refl _⟩)
