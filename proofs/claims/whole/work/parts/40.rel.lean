/-! the class's rows and the reference's: what holds between them -/
def zr_A (S : zz_S) : Prop := S 0 1 = S 77 2 ∧ (0 ≤ S 0 1 ∧ S 0 1 ≤ 7) ∧ (∀ j : Nat, (j : Int) < S 0 1 → S 1 j = S 78 j) ∧ zz_rr S 1 7 0 65535
def zr_B (S : zz_S) : Prop := S 0 3 = S 77 3 ∧ (0 ≤ S 0 3 ∧ S 0 3 ≤ 10) ∧ (∀ j : Nat, j < 10 → S 2 j = S 79 j) ∧ zz_rr S 2 10 (-1) 9
def zr_C (S : zz_S) : Prop := S 0 10 = S 77 0 ∧ (0 ≤ S 0 10 ∧ S 0 10 ≤ 5000)
def zr_D (S : zz_S) (n : Nat) : Prop := (0 ≤ S 3 3 ∧ S 3 3 ≤ (n : Int)) ∧ zz_rr S 6 512 (-1) 9 ∧ ∀ o d : Nat, o < 10 → d ≤ 5000 → S 80 (5001 * o + d) = zz_vo (S 4) (S 5) (S 6) (o : Int) (d : Int) (-1) (S 3 3).toNat + 1
def zr_E (S : zz_S) (n : Nat) : Prop := (0 ≤ S 7 3 ∧ S 7 3 ≤ (n : Int)) ∧ zz_rr S 10 512 0 100 ∧ ∀ o d : Nat, o < 4 → d ≤ 5000 → S 81 (5001 * o + d) = zz_vo (S 8) (S 9) (S 10) (o : Int) (d : Int) 30 (S 7 3).toNat
def zr_f (S : zz_S) (i : Nat) : Prop := (S (13 + i) 0 = S 82 i ∧ S (13 + i) 1 = S 83 i ∧ S (13 + i) 2 = S 84 i ∧ S (13 + i) 3 = S 85 i ∧ S (13 + i) 4 = S 86 i ∧ S (13 + i) 5 = S 87 i ∧ S (13 + i) 6 = S 88 i ∧ S (13 + i) 7 = S 89 i) ∧ (0 ≤ S (13 + i) 0 ∧ S (13 + i) 0 ≤ 9) ∧ (0 ≤ S (13 + i) 1 ∧ S (13 + i) 1 ≤ 3) ∧ (0 ≤ S (13 + i) 2 ∧ S (13 + i) 2 ≤ 5000) ∧ (0 ≤ S (13 + i) 3 ∧ S (13 + i) 3 ≤ 100) ∧ (0 ≤ S (13 + i) 4 ∧ S (13 + i) 4 ≤ 1000) ∧ (0 ≤ S (13 + i) 5 ∧ S (13 + i) 5 ≤ 1) ∧ (0 ≤ S (13 + i) 6 ∧ S (13 + i) 6 ≤ 1) ∧ (-1 ≤ S (13 + i) 7 ∧ S (13 + i) 7 ≤ 1000)
def zr_F (S : zz_S) : Prop := S 0 7 = S 77 7 ∧ (0 ≤ S 0 7 ∧ S 0 7 ≤ 24) ∧ ∀ i : Nat, i < 24 → zr_f S i
def zr_G (S : zz_S) : Prop := ∀ i p : Nat, i < 24 → p < 10 → S (37 + i) p = S 90 (10 * i + p) ∧ -1 ≤ S (37 + i) p ∧ S (37 + i) p ≤ 5000
def zr_h (S : zz_S) (c : Nat) : Prop := (S (61 + c) 0 = S 91 c ∧ S (61 + c) 1 = S 92 c ∧ S (61 + c) 2 = S 93 c ∧ S (61 + c) 3 = S 94 c ∧ S (61 + c) 6 = S 97 c ∧ S (61 + c) 7 = S 98 c) ∧ (0 ≤ S (61 + c) 0 ∧ S (61 + c) 0 ≤ 23) ∧ (0 ≤ S (61 + c) 1 ∧ S (61 + c) 1 ≤ 2) ∧ (0 ≤ S (61 + c) 2 ∧ S (61 + c) 2 ≤ 60) ∧ (0 ≤ S (61 + c) 3 ∧ S (61 + c) 3 ≤ 1023) ∧ (0 ≤ S (61 + c) 4 ∧ S (61 + c) 4 ≤ 2) ∧ (0 ≤ S (61 + c) 5 ∧ S (61 + c) 5 ≤ 5000) ∧ (0 ≤ S (61 + c) 6 ∧ S (61 + c) 6 ≤ 1) ∧ (-1 ≤ S (61 + c) 7 ∧ S (61 + c) 7 ≤ 3) ∧ (S (61 + c) 4 = 1 → S (61 + c) 5 ≤ S 0 10) ∧ (-1 ≤ S 95 c ∧ S 95 c ≤ 5000 ∧ S 95 c ≤ S 77 0) ∧ ((S (61 + c) 4 = 2 ∧ S 96 c = 1) ∨ (¬ S (61 + c) 4 = 2 ∧ S 96 c = 0)) ∧ ((c : Int) < S 0 9 → (S (61 + c) 4 = 0 ↔ S 95 c = -1) ∧ (¬ S (61 + c) 4 = 0 → S (61 + c) 5 = S 95 c) ∧ (S (61 + c) 1 = 0 → 1 ≤ S (61 + c) 2)) ∧ (S 0 9 ≤ (c : Int) → S (61 + c) 4 = 0)
def zr_H (S : zz_S) : Prop := S 0 9 = S 77 17 ∧ (0 ≤ S 0 9 ∧ S 0 9 ≤ 16) ∧ (∀ c : Nat, c < 16 → zr_h S c) ∧ (∀ c d : Nat, (c : Int) < S 0 9 → (d : Int) < S 0 9 → c ≠ d → S (61 + c) 0 = S (61 + d) 0 → S (61 + c) 1 = 2 ∨ S (61 + d) 1 = 2)
/-- behind n calls -/
def zr_ (S : zz_S) (n : Nat) : Prop := zr_A S ∧ zr_B S ∧ zr_C S ∧ zr_D S n ∧ zr_E S n ∧ zr_F S ∧ zr_G S ∧ zr_H S
theorem zr_A_tr {S T : zz_S} (h1 : T 0 1 = S 0 1) (h2 : T 1 = S 1) (h3 : T 77 2 = S 77 2) (h4 : T 78 = S 78) (h : zr_A S) : zr_A T := by
  unfold zr_A zz_rr at *
  rw [h1, h2, h3, h4]
  exact h
theorem zr_B_tr {S T : zz_S} (h1 : T 0 3 = S 0 3) (h2 : T 2 = S 2) (h3 : T 77 3 = S 77 3) (h4 : T 79 = S 79) (h : zr_B S) : zr_B T := by
  unfold zr_B zz_rr at *
  rw [h1, h2, h3, h4]
  exact h
theorem zr_C_tr {S T : zz_S} (h1 : T 0 10 = S 0 10) (h2 : T 77 0 = S 77 0) (h : zr_C S) : zr_C T := by
  unfold zr_C at *
  rw [h1, h2]
  exact h
theorem zr_D_tr {S T : zz_S} {n n' : Nat} (hn : n ≤ n') (h1 : T 3 3 = S 3 3) (h2 : T 4 = S 4) (h3 : T 5 = S 5) (h4 : T 6 = S 6) (h5 : T 80 = S 80) (h : zr_D S n) : zr_D T n' := by
  unfold zr_D zz_rr at *
  rw [h1, h2, h3, h4, h5]
  exact ⟨⟨h.1.1, by have := h.1.2; omega⟩, h.2⟩
theorem zr_E_tr {S T : zz_S} {n n' : Nat} (hn : n ≤ n') (h1 : T 7 3 = S 7 3) (h2 : T 8 = S 8) (h3 : T 9 = S 9) (h4 : T 10 = S 10) (h5 : T 81 = S 81) (h : zr_E S n) : zr_E T n' := by
  unfold zr_E zz_rr at *
  rw [h1, h2, h3, h4, h5]
  exact ⟨⟨h.1.1, by have := h.1.2; omega⟩, h.2⟩
theorem zr_f_tr {S T : zz_S} {i : Nat} (h1 : T (13 + i) = S (13 + i)) (h2 : ∀ k : Nat, 82 ≤ k → k ≤ 89 → T k = S k) (h : zr_f S i) : zr_f T i := by
  unfold zr_f at *
  rw [h1, h2 82 (by decide) (by decide), h2 83 (by decide) (by decide), h2 84 (by decide) (by decide), h2 85 (by decide) (by decide), h2 86 (by decide) (by decide), h2 87 (by decide) (by decide), h2 88 (by decide) (by decide), h2 89 (by decide) (by decide)]
  exact h
theorem zr_F_tr {S T : zz_S} (h1 : T 0 7 = S 0 7) (h2 : ∀ i : Nat, i < 24 → T (13 + i) = S (13 + i)) (h3 : T 77 7 = S 77 7) (h4 : ∀ k : Nat, 82 ≤ k → k ≤ 89 → T k = S k) (h : zr_F S) : zr_F T := by
  refine ⟨by rw [h1, h3]; exact h.1, by rw [h1]; exact h.2.1, fun i hi => zr_f_tr (h2 i hi) h4 (h.2.2 i hi)⟩
theorem zr_G_tr {S T : zz_S} (h1 : ∀ i : Nat, i < 24 → T (37 + i) = S (37 + i)) (h2 : T 90 = S 90) (h : zr_G S) : zr_G T := by
  intro i p hi hp
  rw [h1 i hi, h2]
  exact h i p hi hp
theorem zr_h_tr {S T : zz_S} {c : Nat} (h1 : T 0 9 = S 0 9) (h2 : T (61 + c) = S (61 + c)) (h4 : T 0 10 = S 0 10) (h5 : T 77 0 = S 77 0) (h6 : ∀ k : Nat, 91 ≤ k → k ≤ 98 → T k = S k) (h : zr_h S c) : zr_h T c := by
  unfold zr_h at *
  rw [h1, h2, h4, h5, h6 91 (by decide) (by decide), h6 92 (by decide) (by decide), h6 93 (by decide) (by decide), h6 94 (by decide) (by decide), h6 95 (by decide) (by decide), h6 96 (by decide) (by decide), h6 97 (by decide) (by decide), h6 98 (by decide) (by decide)]
  exact h
theorem zr_H_tr {S T : zz_S} (h1 : T 0 9 = S 0 9) (h2 : ∀ c : Nat, c < 16 → T (61 + c) = S (61 + c)) (h3 : T 77 17 = S 77 17) (h4 : T 0 10 = S 0 10) (h5 : T 77 0 = S 77 0) (h6 : ∀ k : Nat, 91 ≤ k → k ≤ 98 → T k = S k) (h : zr_H S) : zr_H T := by
  have hb := h.2.1
  refine ⟨by rw [h1, h3]; exact h.1, by rw [h1]; exact h.2.1, fun c hc => zr_h_tr h1 (h2 c hc) h4 h5 h6 (h.2.2.1 c hc), ?_⟩
  intro c d hc hd
  rw [h1] at hc hd
  rw [h2 c (by omega), h2 d (by omega)]
  exact h.2.2.2 c d hc hd
theorem zr_IM_tr {S T : zz_S} (h : ∀ k : Nat, 77 ≤ k → k ≤ 98 → T k = S k) (hI : zz_IM S) : zz_IM T := by
  unfold zz_IM zz_rr at *
  rw [h 77 (by decide) (by decide), h 80 (by decide) (by decide), h 81 (by decide) (by decide), h 82 (by decide) (by decide), h 83 (by decide) (by decide), h 84 (by decide) (by decide), h 85 (by decide) (by decide), h 86 (by decide) (by decide), h 87 (by decide) (by decide), h 88 (by decide) (by decide), h 90 (by decide) (by decide), h 91 (by decide) (by decide), h 92 (by decide) (by decide), h 93 (by decide) (by decide), h 94 (by decide) (by decide), h 95 (by decide) (by decide), h 96 (by decide) (by decide), h 97 (by decide) (by decide), h 98 (by decide) (by decide), h 79 (by decide) (by decide)]
  exact hI
theorem zr_26 {S : zz_S} {n : Nat} (z : Int) (h : zr_ S n) : zr_ (zz_u S 77 26 z) n := by
  obtain ⟨hA, hB, hC, hD, hE, hF, hG, hH⟩ := h
  exact ⟨zr_A_tr (by simp (disch := omega) only [zz_u_off, zz_u_ne, zz_u_same]) (by simp (disch := omega) only [zz_u_off, zz_u_ne, zz_u_same]) (by simp (disch := omega) only [zz_u_off, zz_u_ne, zz_u_same]) (by simp (disch := omega) only [zz_u_off, zz_u_ne, zz_u_same]) hA, zr_B_tr (by simp (disch := omega) only [zz_u_off, zz_u_ne, zz_u_same]) (by simp (disch := omega) only [zz_u_off, zz_u_ne, zz_u_same]) (by simp (disch := omega) only [zz_u_off, zz_u_ne, zz_u_same]) (by simp (disch := omega) only [zz_u_off, zz_u_ne, zz_u_same]) hB, zr_C_tr (by simp (disch := omega) only [zz_u_off, zz_u_ne, zz_u_same]) (by simp (disch := omega) only [zz_u_off, zz_u_ne, zz_u_same]) hC, zr_D_tr (Nat.le_refl n) (by simp (disch := omega) only [zz_u_off, zz_u_ne, zz_u_same]) (by simp (disch := omega) only [zz_u_off, zz_u_ne, zz_u_same]) (by simp (disch := omega) only [zz_u_off, zz_u_ne, zz_u_same]) (by simp (disch := omega) only [zz_u_off, zz_u_ne, zz_u_same]) (by simp (disch := omega) only [zz_u_off, zz_u_ne, zz_u_same]) hD, zr_E_tr (Nat.le_refl n) (by simp (disch := omega) only [zz_u_off, zz_u_ne, zz_u_same]) (by simp (disch := omega) only [zz_u_off, zz_u_ne, zz_u_same]) (by simp (disch := omega) only [zz_u_off, zz_u_ne, zz_u_same]) (by simp (disch := omega) only [zz_u_off, zz_u_ne, zz_u_same]) (by simp (disch := omega) only [zz_u_off, zz_u_ne, zz_u_same]) hE, zr_F_tr (by simp (disch := omega) only [zz_u_off, zz_u_ne, zz_u_same]) (fun i hi => by simp (disch := omega) only [zz_u_off, zz_u_ne, zz_u_same]) (by simp (disch := omega) only [zz_u_off, zz_u_ne, zz_u_same]) (fun k k1 k2 => by simp (disch := omega) only [zz_u_off, zz_u_ne, zz_u_same]) hF, zr_G_tr (fun i hi => by simp (disch := omega) only [zz_u_off, zz_u_ne, zz_u_same]) (by simp (disch := omega) only [zz_u_off, zz_u_ne, zz_u_same]) hG, zr_H_tr (by simp (disch := omega) only [zz_u_off, zz_u_ne, zz_u_same]) (fun c hc => by simp (disch := omega) only [zz_u_off, zz_u_ne, zz_u_same]) (by simp (disch := omega) only [zz_u_off, zz_u_ne, zz_u_same]) (by simp (disch := omega) only [zz_u_off, zz_u_ne, zz_u_same]) (by simp (disch := omega) only [zz_u_off, zz_u_ne, zz_u_same]) (fun k k1 k2 => by simp (disch := omega) only [zz_u_off, zz_u_ne, zz_u_same]) hH⟩
theorem zr_99 {S : zz_S} {n : Nat} (z : Int) (h : zr_ S n) : zr_ (zz_u S 99 0 z) n := by
  obtain ⟨hA, hB, hC, hD, hE, hF, hG, hH⟩ := h
  exact ⟨zr_A_tr (by simp (disch := omega) only [zz_u_off, zz_u_ne, zz_u_same]) (by simp (disch := omega) only [zz_u_off, zz_u_ne, zz_u_same]) (by simp (disch := omega) only [zz_u_off, zz_u_ne, zz_u_same]) (by simp (disch := omega) only [zz_u_off, zz_u_ne, zz_u_same]) hA, zr_B_tr (by simp (disch := omega) only [zz_u_off, zz_u_ne, zz_u_same]) (by simp (disch := omega) only [zz_u_off, zz_u_ne, zz_u_same]) (by simp (disch := omega) only [zz_u_off, zz_u_ne, zz_u_same]) (by simp (disch := omega) only [zz_u_off, zz_u_ne, zz_u_same]) hB, zr_C_tr (by simp (disch := omega) only [zz_u_off, zz_u_ne, zz_u_same]) (by simp (disch := omega) only [zz_u_off, zz_u_ne, zz_u_same]) hC, zr_D_tr (Nat.le_refl n) (by simp (disch := omega) only [zz_u_off, zz_u_ne, zz_u_same]) (by simp (disch := omega) only [zz_u_off, zz_u_ne, zz_u_same]) (by simp (disch := omega) only [zz_u_off, zz_u_ne, zz_u_same]) (by simp (disch := omega) only [zz_u_off, zz_u_ne, zz_u_same]) (by simp (disch := omega) only [zz_u_off, zz_u_ne, zz_u_same]) hD, zr_E_tr (Nat.le_refl n) (by simp (disch := omega) only [zz_u_off, zz_u_ne, zz_u_same]) (by simp (disch := omega) only [zz_u_off, zz_u_ne, zz_u_same]) (by simp (disch := omega) only [zz_u_off, zz_u_ne, zz_u_same]) (by simp (disch := omega) only [zz_u_off, zz_u_ne, zz_u_same]) (by simp (disch := omega) only [zz_u_off, zz_u_ne, zz_u_same]) hE, zr_F_tr (by simp (disch := omega) only [zz_u_off, zz_u_ne, zz_u_same]) (fun i hi => by simp (disch := omega) only [zz_u_off, zz_u_ne, zz_u_same]) (by simp (disch := omega) only [zz_u_off, zz_u_ne, zz_u_same]) (fun k k1 k2 => by simp (disch := omega) only [zz_u_off, zz_u_ne, zz_u_same]) hF, zr_G_tr (fun i hi => by simp (disch := omega) only [zz_u_off, zz_u_ne, zz_u_same]) (by simp (disch := omega) only [zz_u_off, zz_u_ne, zz_u_same]) hG, zr_H_tr (by simp (disch := omega) only [zz_u_off, zz_u_ne, zz_u_same]) (fun c hc => by simp (disch := omega) only [zz_u_off, zz_u_ne, zz_u_same]) (by simp (disch := omega) only [zz_u_off, zz_u_ne, zz_u_same]) (by simp (disch := omega) only [zz_u_off, zz_u_ne, zz_u_same]) (by simp (disch := omega) only [zz_u_off, zz_u_ne, zz_u_same]) (fun k k1 k2 => by simp (disch := omega) only [zz_u_off, zz_u_ne, zz_u_same]) hH⟩
theorem zr_s {S : zz_S} {n : Nat} (h : zr_ S n) : zr_ S (n + 1) := by
  obtain ⟨hA, hB, hC, hD, hE, hF, hG, hH⟩ := h
  exact ⟨hA, hB, hC, zr_D_tr (Nat.le_succ n) rfl rfl rfl rfl rfl hD, zr_E_tr (Nat.le_succ n) rfl rfl rfl rfl rfl hE, hF, hG, hH⟩
theorem zr_IC {S : zz_S} {n : Nat} (hn : n ≤ 512) (h : zr_ S n) : zz_IC S := by
  obtain ⟨hA, hB, hC, hD, hE, hF, hG, hH⟩ := h
  have hD1 := hD.1
  have hE1 := hE.1
  refine ⟨hA.2.1, hB.2.1, hF.2.1, hH.2.1, hC.2, ⟨hD1.1, by omega⟩, ⟨hE1.1, by omega⟩, hB.2.2.2, hD.2.1, fun j hj => ?_, fun j hj => ?_, fun j hj => ?_, fun j hj => ?_, fun j hj => ?_, fun j hj => ?_, fun j hj => ?_, fun j hj => ?_, fun i hi j hj => (hG i j hi hj).2, fun j hj => ?_, fun j hj => ?_, fun j hj => ?_, fun j hj => ?_, fun j hj => ?_, fun j hj => ?_, fun j hj => ?_, fun j hj => ?_, fun j hj => ?_, hA.2.2.2⟩
  · exact (hF.2.2 j hj).2.1
  · exact (hF.2.2 j hj).2.2.1
  · exact (hF.2.2 j hj).2.2.2.1
  · exact (hF.2.2 j hj).2.2.2.2.1
  · exact (hF.2.2 j hj).2.2.2.2.2.1
  · exact (hF.2.2 j hj).2.2.2.2.2.2.1
  · exact (hF.2.2 j hj).2.2.2.2.2.2.2.1
  · exact (hF.2.2 j hj).2.2.2.2.2.2.2.2
  · exact (hH.2.2.1 j hj).2.1
  · exact (hH.2.2.1 j hj).2.2.1
  · exact (hH.2.2.1 j hj).2.2.2.1
  · exact (hH.2.2.1 j hj).2.2.2.2.1
  · exact (hH.2.2.1 j hj).2.2.2.2.2.1
  · exact (hH.2.2.1 j hj).2.2.2.2.2.2.1
  · exact (hH.2.2.1 j hj).2.2.2.2.2.2.2.1
  · exact (hH.2.2.1 j hj).2.2.2.2.2.2.2.2.1
  · exact (hH.2.2.1 j hj).2.2.2.2.2.2.2.2.2.1
theorem zr_IM {S : zz_S} {n : Nat} (hn : n ≤ 512) (h : zr_ S n) : zz_IM S := by
  obtain ⟨hA, hB, hC, hD, hE, hF, hG, hH⟩ := h
  have hD1 := hD.1
  have hE1 := hE.1
  refine ⟨by rw [← hC.1]; exact hC.2, by rw [← hA.1]; exact hA.2.1, by rw [← hB.1]; exact hB.2.1, by rw [← hF.1]; exact hF.2.1, by rw [← hH.1]; exact hH.2.1, fun j hj => ?_, fun j hj => ?_, fun j hj => ?_, fun j hj => ?_, fun j hj => ?_, fun j hj => ?_, fun j hj => ?_, fun j hj => ?_, fun j hj => ?_, fun j hj => ?_, fun j hj => ?_, fun j hj => ?_, fun j hj => ?_, fun j hj => ?_, fun j hj => ?_, fun j hj => ?_, fun j hj => ?_, fun j hj => ?_, fun j hj => ?_, fun j hj => ?_⟩
  · have h1 := hD.2.2 (j / 5001) (j % 5001) (by omega) (by omega)
    have h2 := zz_vo_rng (th := S 4) (da := S 5) (va := S 6) (lo := -1) (hi := 9) (t := ((j / 5001 : Nat) : Int)) (d := ((j % 5001 : Nat) : Int)) (z := -1) ⟨by omega, by omega⟩ (n := (S 3 3).toNat) (fun q hq => hD.2.1 q (by omega))
    rw [Nat.div_add_mod] at h1
    omega
  · have h1 := hE.2.2 (j / 5001) (j % 5001) (by omega) (by omega)
    have h2 := zz_vo_rng (th := S 8) (da := S 9) (va := S 10) (lo := 0) (hi := 100) (t := ((j / 5001 : Nat) : Int)) (d := ((j % 5001 : Nat) : Int)) (z := 30) ⟨by omega, by omega⟩ (n := (S 7 3).toNat) (fun q hq => hE.2.1 q (by omega))
    rw [Nat.div_add_mod] at h1
    omega
  · have h1 := hF.2.2 j hj
    unfold zr_f at h1
    omega
  · have h1 := hF.2.2 j hj
    unfold zr_f at h1
    omega
  · have h1 := hF.2.2 j hj
    unfold zr_f at h1
    omega
  · have h1 := hF.2.2 j hj
    unfold zr_f at h1
    omega
  · have h1 := hF.2.2 j hj
    unfold zr_f at h1
    omega
  · have h1 := hF.2.2 j hj
    unfold zr_f at h1
    omega
  · have h1 := hF.2.2 j hj
    unfold zr_f at h1
    omega
  · have h1 := hG (j / 10) (j % 10) (by omega) (by omega)
    rw [Nat.div_add_mod] at h1
    omega
  · have h1 := hH.2.2.1 j hj
    unfold zr_h at h1
    omega
  · have h1 := hH.2.2.1 j hj
    unfold zr_h at h1
    omega
  · have h1 := hH.2.2.1 j hj
    unfold zr_h at h1
    omega
  · have h1 := hH.2.2.1 j hj
    unfold zr_h at h1
    omega
  · have h1 := hH.2.2.1 j hj
    unfold zr_h at h1
    omega
  · have h1 := hH.2.2.1 j hj
    unfold zr_h at h1
    omega
  · have h1 := hH.2.2.1 j hj
    unfold zr_h at h1
    omega
  · have h1 := hH.2.2.1 j hj
    unfold zr_h at h1
    omega
  · have h1 := hB.2.2.1 j hj
    have h2 := hB.2.2.2 j hj
    omega
  · have h1 := hH.2.2.1 j hj
    unfold zr_h at h1
    omega
/-! what the class and the reference compute is the same -/
theorem zr_oo {S : zz_S} {n : Nat} (hD : zr_D S n) (hn : n ≤ 512) {d : Int} (hd : 0 ≤ d ∧ d ≤ 5000) : ∀ (k : Nat) (o : Int), 0 ≤ o ∧ o ≤ 9 → zz_oo (S 4) (S 5) (S 6) (S 3 3).toNat d k o = zz_mwo (S 80) d k o
  | 0, _, _ => rfl
  | k + 1, o, ho => by
    have hc := hD.1
    have h1 := hD.2.2 o.toNat d.toNat (by omega) (by omega)
    rw [show ((o.toNat : Nat) : Int) = o by omega, show ((d.toNat : Nat) : Int) = d by omega] at h1
    have h2 := zz_vo_rng (th := S 4) (da := S 5) (va := S 6) (lo := -1) (hi := 9) (t := o) (d := d) (z := -1) ⟨by omega, by omega⟩ (n := (S 3 3).toNat) (fun q hq => hD.2.1 q (by omega))
    rw [zz_oo, zz_mwo, show (5001 * o + d).toNat = 5001 * o.toNat + d.toNat by omega, h1]
    by_cases q : zz_vo (S 4) (S 5) (S 6) o d (-1) (S 3 3).toNat = -1
    · rw [if_pos q, if_pos (by omega)]
    · rw [if_neg q, if_neg (by omega), Int.add_sub_cancel]
      exact zr_oo hD hn hd k _ (by omega)
theorem zr_cb {S : zz_S} (hB : zr_B S) : ∀ (k : Nat) (o : Int), 0 ≤ o ∧ o ≤ 9 → zz_cb S k o = zz_mcl (S 79) k o
  | 0, _, _ => rfl
  | k + 1, o, ho => by
    have h1 := hB.2.2.1 o.toNat (by omega)
    have h2 := hB.2.2.2 o.toNat (by omega)
    rw [zz_cb, zz_mcl, ← h1]
    by_cases q : S 2 o.toNat = -1
    · rw [if_pos q, if_pos q]
    · rw [if_neg q, if_neg q]
      exact zr_cb hB k _ (by omega)
theorem zr_li {S : zz_S} (hF : zr_F S) {i j : Nat} (hi : i < 24) (hj : j < 24) : zz_li S i j = zz_mli (S 83) (S 82) i j := by
  have h1 := (hF.2.2 i hi).1
  have h2 := (hF.2.2 j hj).1
  unfold zz_li zz_mli
  simp only [h1.1, h1.2.1, h2.1, h2.2.1]
theorem zr_ln {S : zz_S} (hF : zr_F S) {i : Nat} (hi : i < 24) : ∀ j : Nat, j ≤ 24 → zz_ln S i j = zz_mln (S 83) (S 82) i j
  | 0, _ => rfl
  | j + 1, h => by
    have h1 := zz_mli_01 (S 83) (S 82) i j
    rw [zz_ln, zz_mln, zr_ln hF hi j (by omega), zr_li hF hi (show j < 24 by omega)]
    omega
theorem zr_ls {S : zz_S} (hF : zr_F S) {i : Nat} (hi : i < 24) : ∀ j : Nat, j ≤ 24 → zz_ls S i j = zz_mls (S 83) (S 82) (S 85) i j
  | 0, _ => rfl
  | j + 1, h => by
    have h2 := (hF.2.2 j (by omega)).1
    rw [zz_ls, zz_mls, zr_ls hF hi j (by omega), zr_li hF hi (show j < 24 by omega), h2.2.2.2.1]
theorem zr_fr {S : zz_S} {n : Nat} (hE : zr_E S n) (hF : zr_F S) {i : Nat} (hi : i < 24) : zz_fr S i = zz_mfr (S 85) (S 81) (S 83) (S 84) i := by
  have h1 := hF.2.2 i hi
  obtain ⟨⟨-, e1, e2, e3, -⟩, -, g1, g2, -⟩ := h1
  have h2 := hE.2.2 (S (13 + i) 1).toNat (S (13 + i) 2).toNat (by omega) (by omega)
  rw [show (((S (13 + i) 1).toNat : Nat) : Int) = S (13 + i) 1 by omega, show (((S (13 + i) 2).toNat : Nat) : Int) = S (13 + i) 2 by omega] at h2
  unfold zz_fr zz_mfr
  rw [← h2, ← e1, ← e2, ← e3, show (5001 * S (13 + i) 1 + S (13 + i) 2).toNat = 5001 * (S (13 + i) 1).toNat + (S (13 + i) 2).toNat by omega]
theorem zr_un {S : zz_S} (hF : zr_F S) {i : Nat} (hi : i < 24) : zz_un S i = zz_mun (S 83) (S 82) (S 85) (S 77 7).toNat i := by
  have h1 := (hF.2.2 i hi).1
  have h2 := hF.2.1
  unfold zz_un zz_mun
  rw [zr_ln hF hi _ (by omega), zr_ls hF hi _ (by omega), h1.2.2.2.1, hF.1]
theorem zr_ft {S : zz_S} {n : Nat} (hE : zr_E S n) (hF : zr_F S) {i : Nat} (hi : i < 24) : zz_ft S i = zz_mft (S 85) (S 81) (S 83) (S 84) (S 82) (S 77 7).toNat i := by
  unfold zz_ft zz_mft
  rw [zr_fr hE hF hi, zr_un hF hi]
theorem zr_ba {S : zz_S} (hF : zr_F S) (hG : zr_G S) {i p : Nat} (hi : i < 24) (hp : p < 10) (now : Int) : zz_ba S i p now = zz_mba (S 90) (S 87) (S 88) (S 84) now p i := by
  have h1 := (hF.2.2 i hi).1
  have h2 := (hG i p hi hp).1
  unfold zz_ba zz_mba
  rw [h2, h1.2.2.1, h1.2.2.2.2.2.1, h1.2.2.2.2.2.2.1]
theorem zr_mty {w v : Nat → Int} {n : Int} (h : ∀ j : Nat, (j : Int) < n → w j = v j) (k : Nat) : zz_mty w n k = zz_mty v n k := by
  have key : ∀ j : Nat, (j : Int) < n → w j = v j := h
  unfold zz_mty
  by_cases k0 : k = 0
  · rw [if_pos k0, if_pos k0]
    by_cases q : n = 5
    · rw [h 0 (by omega), h 1 (by omega), h 2 (by omega), h 3 (by omega), h 4 (by omega)]
    · rw [if_neg (fun z => q z.1), if_neg (fun z => q z.1)]
  · rw [if_neg k0, if_neg k0]
    by_cases k1 : k = 1
    · rw [if_pos k1, if_pos k1]
      by_cases q : n = 7
      · rw [h 0 (by omega), h 1 (by omega), h 2 (by omega), h 3 (by omega), h 4 (by omega), h 5 (by omega), h 6 (by omega)]
      · rw [if_neg (fun z => q z.1), if_neg (fun z => q z.1)]
    · rw [if_neg k1, if_neg k1]
      by_cases k2 : k = 2
      · rw [if_pos k2, if_pos k2]
        by_cases q : n = 4
        · rw [h 0 (by omega), h 1 (by omega), h 2 (by omega), h 3 (by omega)]
        · rw [if_neg (fun z => q z.1), if_neg (fun z => q z.1)]
      · rw [if_neg k2, if_neg k2]
        by_cases q : n = 6
        · rw [h 0 (by omega), h 1 (by omega), h 2 (by omega), h 3 (by omega), h 4 (by omega), h 5 (by omega)]
        · rw [if_neg (fun z => q z.1), if_neg (fun z => q z.1)]
theorem zr_mty_len (w : Nat → Int) {n : Int} {k : Nat} (hk : k < 4) (h : ¬ zz_mty w n k = 0) : n = if k = 0 then 5 else if k = 1 then 7 else if k = 2 then 4 else 6 := by
  unfold zz_mty at h
  omega
theorem zr_tk {w v : Nat → Int} {n : Int} (h : ∀ j : Nat, (j : Int) < n → w j = v j) : zz_tk w n = zz_mtk v n 4 := by
  have e0 := zr_mty h 0
  have e1 := zr_mty h 1
  have e2 := zr_mty h 2
  have e3 := zr_mty h 3
  have l0 : ¬ zz_mty v n 0 = 0 → n = 5 := fun z => by
    have h9 := zr_mty_len v (n := n) (k := 0) (by decide) z
    simpa using h9
  have l1 : ¬ zz_mty v n 1 = 0 → n = 7 := fun z => by
    have h9 := zr_mty_len v (n := n) (k := 1) (by decide) z
    simpa using h9
  have l2 : ¬ zz_mty v n 2 = 0 → n = 4 := fun z => by
    have h9 := zr_mty_len v (n := n) (k := 2) (by decide) z
    simpa using h9
  have l3 : ¬ zz_mty v n 3 = 0 → n = 6 := fun z => by
    have h9 := zr_mty_len v (n := n) (k := 3) (by decide) z
    simpa using h9
  unfold zz_tk
  rw [zz_mtk, zz_mtk, zz_mtk, zz_mtk, zz_mtk, e0, e1, e2, e3]
  by_cases q0 : zz_mty v n 0 = 0 <;> by_cases q1 : zz_mty v n 1 = 0 <;> by_cases q2 : zz_mty v n 2 = 0 <;> by_cases q3 : zz_mty v n 3 = 0 <;> simp [q0, q1, q2, q3] <;> omega
theorem zr_cj1 {S : zz_S} {x : Int} : ∀ (n j : Nat), (zz_cj S x n j = -1 ∧ ∀ q : Nat, j ≤ q → q < j + n → ¬ (S (61 + q) 0 = x ∧ ¬ S (61 + q) 1 = 2)) ∨ ∃ q : Nat, j ≤ q ∧ q < j + n ∧ (S (61 + q) 0 = x ∧ ¬ S (61 + q) 1 = 2) ∧ zz_cj S x n j = (q : Int)
  | 0, j => Or.inl ⟨rfl, fun q h1 h2 => by omega⟩
  | n + 1, j => by
    rw [zz_cj]
    by_cases h : S (61 + j) 0 = x ∧ ¬ S (61 + j) 1 = 2
    · rw [if_pos h]
      exact Or.inr ⟨j, Nat.le_refl j, by omega, h, rfl⟩
    · rw [if_neg h]
      rcases zr_cj1 (S := S) (x := x) n (j + 1) with ⟨h1, h2⟩ | ⟨q, h1, h2, h3, h4⟩
      · refine Or.inl ⟨h1, fun q g1 g2 => ?_⟩
        by_cases e : q = j
        · rw [e]; exact h
        · exact h2 q (by omega) (by omega)
      · exact Or.inr ⟨q, by omega, by omega, h3, h4⟩
theorem zr_cj2 {ab st : Nat → Int} {x : Int} : ∀ n : Nat, (zz_mcj ab st x n = -1 ∧ ∀ q : Nat, q < n → ¬ (ab q = x ∧ ¬ st q = 2)) ∨ ∃ q : Nat, q < n ∧ (ab q = x ∧ ¬ st q = 2) ∧ zz_mcj ab st x n = (q : Int)
  | 0 => Or.inl ⟨rfl, fun q h => by omega⟩
  | n + 1 => by
    rw [zz_mcj]
    by_cases h : ab n = x ∧ ¬ st n = 2
    · rw [if_pos h]
      exact Or.inr ⟨n, by omega, h, rfl⟩
    · rw [if_neg h]
      rcases zr_cj2 (ab := ab) (st := st) (x := x) n with ⟨h1, h2⟩ | ⟨q, h1, h2, h3⟩
      · refine Or.inl ⟨h1, fun q g => ?_⟩
        by_cases e : q = n
        · rw [e]; exact h
        · exact h2 q (by omega)
      · exact Or.inr ⟨q, by omega, h2, h3⟩
theorem zr_cj {S : zz_S} (hH : zr_H S) (x : Int) : zz_cj S x (S 0 9).toNat 0 = zz_mcj (S 91) (S 92) x (S 77 17).toNat := by
  have hb := hH.2.1
  rw [← hH.1]
  rcases zr_cj1 (S := S) (x := x) (S 0 9).toNat 0 with ⟨h1, h2⟩ | ⟨q, -, h2, h3, h4⟩
  · rcases zr_cj2 (ab := S 91) (st := S 92) (x := x) (S 0 9).toNat with ⟨g1, g2⟩ | ⟨q, g1, g2, g3⟩
    · rw [h1, g1]
    · have h5 := (hH.2.2.1 q (by omega)).1
      exact absurd ⟨by rw [h5.1]; exact g2.1, by rw [h5.2.1]; exact g2.2⟩ (h2 q (Nat.zero_le q) (by omega))
  · rcases zr_cj2 (ab := S 91) (st := S 92) (x := x) (S 0 9).toNat with ⟨g1, g2⟩ | ⟨q', g1, g2, g3⟩
    · have h5 := (hH.2.2.1 q (by omega)).1
      exact absurd ⟨by rw [← h5.1]; exact h3.1, by rw [← h5.2.1]; exact h3.2⟩ (g2 q (by omega))
    · rw [h4, g3]
      have h5 := (hH.2.2.1 q' (by omega)).1
      by_cases e : q = q'
      · rw [e]
      · have h6 := hH.2.2.2 q q' (by omega) (by omega) e (by rw [h3.1, h5.1, g2.1])
        rcases h6 with h6 | h6
        · exact absurd h6 h3.2
        · rw [h5.2.1] at h6; exact absurd h6 g2.2
theorem zr_gn {S : zz_S} {n : Nat} (hE : zr_E S n) (hF : zr_F S) (q lim : Int) : ∀ i : Nat, i ≤ 24 → zz_gn S q lim i = zz_mgn (S 85) (S 81) (S 83) (S 84) q lim i
  | 0, _ => rfl
  | i + 1, h => by
    have h1 := (hF.2.2 i (by omega)).1
    have h2 := zz_mfr_01 (S 85) (S 81) (S 83) (S 84) i
    rw [zz_gn, zz_mgn, zr_gn hE hF q lim i (by omega), zr_fr hE hF (show i < 24 by omega), h1.2.1, h1.2.2.2.1]
    generalize zz_mfr (S 85) (S 81) (S 83) (S 84) i = u at h2 ⊢
    by_cases g1 : S 83 i = q <;> by_cases g2 : lim < S 85 i <;> rcases h2 with g3 | g3 <;> simp [g1, g2, g3]
theorem zr_rb {S : zz_S} {n : Nat} (hE : zr_E S n) (hF : zr_F S) (hH : zr_H S) {c i : Nat} (hc : c < 16) (hi : i < 24) : zz_rb S c i = zz_mrb (S 91) (S 85) (S 81) (S 83) (S 84) (S 82) (S 77 7).toNat c i := by
  have h1 := hH.2.2.1 c hc
  have h2 := h1.2.1
  unfold zz_rb zz_mrb
  rw [zr_li hF (show (S (61 + c) 0).toNat < 24 by omega) hi, zr_ft hE hF hi, h1.1.1]
theorem zr_rn {S : zz_S} {n : Nat} (hE : zr_E S n) (hF : zr_F S) (hH : zr_H S) {c : Nat} (hc : c < 16) : ∀ i : Nat, i ≤ 24 → zz_rn S c i = zz_mrn (S 91) (S 85) (S 81) (S 83) (S 84) (S 82) (S 77 7).toNat c i
  | 0, _ => rfl
  | i + 1, h => by rw [zz_rn, zz_mrn, zr_rn hE hF hH hc i (by omega), zr_rb hE hF hH hc (show i < 24 by omega)]
