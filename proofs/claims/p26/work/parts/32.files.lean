/-! files, hearings, findings -/
def zk_rem (T : zz_S) (k : Nat) : Int := if T (61 + k) 4 = 1 then zz_cb T ((T 0 10 - T (61 + k) 5) / 10).toNat (T (13 + (T (61 + k) 0).toNat) 0) else -1
theorem zk_ask {T : zz_S} {n k : Nat} (h : zi_ T n) (hk : (k : Int) < T 0 9) : zi_ (zz_u (zz_u T (61 + k) 4 1) (61 + k) 5 (T 0 10)) n ∧ (0 ≤ T (13 + (T (61 + k) 0).toNat) 0 ∧ T (13 + (T (61 + k) 0).toNat) 0 < T 0 3) ∧ zz_ab (zz_u (zz_u T (61 + k) 4 1) (61 + k) 5 (T 0 10)) k 4 = 1 ∧ zk_rem (zz_u (zz_u T (61 + k) 4 1) (61 + k) 5 (T 0 10)) k = T (13 + (T (61 + k) 0).toNat) 0 ∧ zz_u (zz_u T (61 + k) 4 1) (61 + k) 5 (T 0 10) (61 + k) 4 = 1 := by
  obtain ⟨hA, hB, hC, hD, hE, hF, hG, hH⟩ := h
  obtain ⟨g1, g2, g3, g4, g5, g6, g7, g8, g9, g10, g11, g12⟩ := hH.2 k (by have h9 := hH.1; omega)
  have hf1 := hF.1
  have hc1 := hC
  unfold zi_C at hc1
  have g10' := g10 hk
  obtain ⟨f1, f2, f3, f4, f5, f6, f7, f8, f9, f10⟩ := hF.2 (T (61 + k) 0).toNat (by omega)
  have hh1 := hH.1
  refine ⟨⟨?_, ?_, ?_, ?_, ?_, ?_, ?_, ?_⟩, ⟨f1.1, f9 (by omega)⟩, ?_, ?_, ?_⟩
  · exact zi_A_tr (by simp (disch := omega) only [zz_u_off, zz_u_ne, zz_u_same]) (by simp (disch := omega) only [zz_u_off, zz_u_ne, zz_u_same]) hA
  · exact zi_B_tr (by simp (disch := omega) only [zz_u_off, zz_u_ne, zz_u_same]) (by simp (disch := omega) only [zz_u_off, zz_u_ne, zz_u_same]) hB
  · exact zi_C_tr (by simp (disch := omega) only [zz_u_off, zz_u_ne, zz_u_same]) hC
  · exact zi_D_tr (Nat.le_refl _) (by simp (disch := omega) only [zz_u_off, zz_u_ne, zz_u_same]) (by simp (disch := omega) only [zz_u_off, zz_u_ne, zz_u_same]) (by simp (disch := omega) only [zz_u_off, zz_u_ne, zz_u_same]) (by simp (disch := omega) only [zz_u_off, zz_u_ne, zz_u_same]) (by first | (simp (disch := omega) only [zz_u_off, zz_u_ne, zz_u_same]; omega) | (simp (disch := omega) only [zz_u_off, zz_u_ne, zz_u_same]; exact Int.le_refl _) | (simp (disch := omega) only [zz_u_off, zz_u_ne, zz_u_same, Int.le_refl])) (by first | (simp (disch := omega) only [zz_u_off, zz_u_ne, zz_u_same]; omega) | (simp (disch := omega) only [zz_u_off, zz_u_ne, zz_u_same]; exact Int.le_refl _) | (simp (disch := omega) only [zz_u_off, zz_u_ne, zz_u_same, Int.le_refl])) hD
  · exact zi_E_tr (Nat.le_refl _) (by simp (disch := omega) only [zz_u_off, zz_u_ne, zz_u_same]) (by simp (disch := omega) only [zz_u_off, zz_u_ne, zz_u_same]) hE
  · exact zi_F_tr (by simp (disch := omega) only [zz_u_off, zz_u_ne, zz_u_same]) (fun i hi => (by simp (disch := omega) only [zz_u_off, zz_u_ne, zz_u_same])) (by first | (simp (disch := omega) only [zz_u_off, zz_u_ne, zz_u_same]; omega) | (simp (disch := omega) only [zz_u_off, zz_u_ne, zz_u_same]; exact Int.le_refl _) | (simp (disch := omega) only [zz_u_off, zz_u_ne, zz_u_same, Int.le_refl])) hF
  · exact zi_G_tr (by simp (disch := omega) only [zz_u_off, zz_u_ne, zz_u_same]) (fun i hi => (by simp (disch := omega) only [zz_u_off, zz_u_ne, zz_u_same])) hG
  · refine ⟨by simp (disch := omega) only [zz_u_off, zz_u_ne, zz_u_same]; exact hH.1, fun q hq => ?_⟩
    by_cases e : q = k
    · rw [e]
      unfold zi_h
      simp (disch := omega) only [zz_u_ne, zz_u_same]
      exact ⟨g1, g2, g3, g4, ⟨by decide, by decide⟩, hc1, g7, g8, fun _ => Int.le_refl _, g10, g11, g12⟩
    · have h9 := hH.2 q hq
      unfold zi_h at h9 ⊢
      simp (disch := omega) only [zz_u_off, zz_u_ne]
      exact h9
  · unfold zz_ab
    simp (disch := omega) only [zz_u_ne, zz_u_same]
    rfl
  · unfold zk_rem
    simp (disch := omega) only [zz_u_off, zz_u_ne, zz_u_same]
    rw [if_pos trivial, Int.sub_self]
    rfl
  · simp (disch := omega) only [zz_u_ne, zz_u_same]
theorem zk_answer {T : zz_S} {n k : Nat} (h : zi_ T n) (hk : (k : Int) < T 0 9) (hf : T (61 + k) 4 = 1) : zi_ (zz_u T (61 + k) 4 2) n ∧ (0 ≤ T 0 10 - T (61 + k) 5 ∧ T 0 10 - T (61 + k) 5 ≤ T 0 10) ∧ zz_ab (zz_u T (61 + k) 4 2) k 4 = 0 ∧ zk_rem (zz_u T (61 + k) 4 2) k = -1 := by
  obtain ⟨hA, hB, hC, hD, hE, hF, hG, hH⟩ := h
  obtain ⟨g1, g2, g3, g4, g5, g6, g7, g8, g9, g10, g11, g12⟩ := hH.2 k (by have h9 := hH.1; omega)
  have g9' := g9 hf
  have hh1 := hH.1
  refine ⟨⟨?_, ?_, ?_, ?_, ?_, ?_, ?_, ?_⟩, by omega, ?_, ?_⟩
  · exact zi_A_tr (by simp (disch := omega) only [zz_u_off, zz_u_ne, zz_u_same]) (by simp (disch := omega) only [zz_u_off, zz_u_ne, zz_u_same]) hA
  · exact zi_B_tr (by simp (disch := omega) only [zz_u_off, zz_u_ne, zz_u_same]) (by simp (disch := omega) only [zz_u_off, zz_u_ne, zz_u_same]) hB
  · exact zi_C_tr (by simp (disch := omega) only [zz_u_off, zz_u_ne, zz_u_same]) hC
  · exact zi_D_tr (Nat.le_refl _) (by simp (disch := omega) only [zz_u_off, zz_u_ne, zz_u_same]) (by simp (disch := omega) only [zz_u_off, zz_u_ne, zz_u_same]) (by simp (disch := omega) only [zz_u_off, zz_u_ne, zz_u_same]) (by simp (disch := omega) only [zz_u_off, zz_u_ne, zz_u_same]) (by first | (simp (disch := omega) only [zz_u_off, zz_u_ne, zz_u_same]; omega) | (simp (disch := omega) only [zz_u_off, zz_u_ne, zz_u_same]; exact Int.le_refl _) | (simp (disch := omega) only [zz_u_off, zz_u_ne, zz_u_same, Int.le_refl])) (by first | (simp (disch := omega) only [zz_u_off, zz_u_ne, zz_u_same]; omega) | (simp (disch := omega) only [zz_u_off, zz_u_ne, zz_u_same]; exact Int.le_refl _) | (simp (disch := omega) only [zz_u_off, zz_u_ne, zz_u_same, Int.le_refl])) hD
  · exact zi_E_tr (Nat.le_refl _) (by simp (disch := omega) only [zz_u_off, zz_u_ne, zz_u_same]) (by simp (disch := omega) only [zz_u_off, zz_u_ne, zz_u_same]) hE
  · exact zi_F_tr (by simp (disch := omega) only [zz_u_off, zz_u_ne, zz_u_same]) (fun i hi => (by simp (disch := omega) only [zz_u_off, zz_u_ne, zz_u_same])) (by first | (simp (disch := omega) only [zz_u_off, zz_u_ne, zz_u_same]; omega) | (simp (disch := omega) only [zz_u_off, zz_u_ne, zz_u_same]; exact Int.le_refl _) | (simp (disch := omega) only [zz_u_off, zz_u_ne, zz_u_same, Int.le_refl])) hF
  · exact zi_G_tr (by simp (disch := omega) only [zz_u_off, zz_u_ne, zz_u_same]) (fun i hi => (by simp (disch := omega) only [zz_u_off, zz_u_ne, zz_u_same])) hG
  · refine ⟨by simp (disch := omega) only [zz_u_off, zz_u_ne, zz_u_same]; exact hH.1, fun q hq => ?_⟩
    by_cases e : q = k
    · rw [e]
      unfold zi_h
      simp (disch := omega) only [zz_u_ne, zz_u_same]
      exact ⟨g1, g2, g3, g4, ⟨by decide, by decide⟩, g6, g7, g8, fun z => absurd z (by decide), g10, g11, g12⟩
    · have h9 := hH.2 q hq
      unfold zi_h at h9 ⊢
      simp (disch := omega) only [zz_u_off, zz_u_ne]
      exact h9
  · unfold zz_ab
    simp (disch := omega) only [zz_u_ne, zz_u_same]
    rfl
  · unfold zk_rem
    simp (disch := omega) only [zz_u_ne, zz_u_same]
    rfl
theorem zk_hear {T : zz_S} {n k : Nat} (h : zi_ T n) (hk : (k : Int) < T 0 9) : zi_ (zz_u T (61 + k) 6 1) n := by
  obtain ⟨hA, hB, hC, hD, hE, hF, hG, hH⟩ := h
  obtain ⟨g1, g2, g3, g4, g5, g6, g7, g8, g9, g10, g11, g12⟩ := hH.2 k (by have h9 := hH.1; omega)
  have hh1 := hH.1
  refine ⟨?_, ?_, ?_, ?_, ?_, ?_, ?_, ?_⟩
  · exact zi_A_tr (by simp (disch := omega) only [zz_u_off, zz_u_ne, zz_u_same]) (by simp (disch := omega) only [zz_u_off, zz_u_ne, zz_u_same]) hA
  · exact zi_B_tr (by simp (disch := omega) only [zz_u_off, zz_u_ne, zz_u_same]) (by simp (disch := omega) only [zz_u_off, zz_u_ne, zz_u_same]) hB
  · exact zi_C_tr (by simp (disch := omega) only [zz_u_off, zz_u_ne, zz_u_same]) hC
  · exact zi_D_tr (Nat.le_refl _) (by simp (disch := omega) only [zz_u_off, zz_u_ne, zz_u_same]) (by simp (disch := omega) only [zz_u_off, zz_u_ne, zz_u_same]) (by simp (disch := omega) only [zz_u_off, zz_u_ne, zz_u_same]) (by simp (disch := omega) only [zz_u_off, zz_u_ne, zz_u_same]) (by first | (simp (disch := omega) only [zz_u_off, zz_u_ne, zz_u_same]; omega) | (simp (disch := omega) only [zz_u_off, zz_u_ne, zz_u_same]; exact Int.le_refl _) | (simp (disch := omega) only [zz_u_off, zz_u_ne, zz_u_same, Int.le_refl])) (by first | (simp (disch := omega) only [zz_u_off, zz_u_ne, zz_u_same]; omega) | (simp (disch := omega) only [zz_u_off, zz_u_ne, zz_u_same]; exact Int.le_refl _) | (simp (disch := omega) only [zz_u_off, zz_u_ne, zz_u_same, Int.le_refl])) hD
  · exact zi_E_tr (Nat.le_refl _) (by simp (disch := omega) only [zz_u_off, zz_u_ne, zz_u_same]) (by simp (disch := omega) only [zz_u_off, zz_u_ne, zz_u_same]) hE
  · exact zi_F_tr (by simp (disch := omega) only [zz_u_off, zz_u_ne, zz_u_same]) (fun i hi => (by simp (disch := omega) only [zz_u_off, zz_u_ne, zz_u_same])) (by first | (simp (disch := omega) only [zz_u_off, zz_u_ne, zz_u_same]; omega) | (simp (disch := omega) only [zz_u_off, zz_u_ne, zz_u_same]; exact Int.le_refl _) | (simp (disch := omega) only [zz_u_off, zz_u_ne, zz_u_same, Int.le_refl])) hF
  · exact zi_G_tr (by simp (disch := omega) only [zz_u_off, zz_u_ne, zz_u_same]) (fun i hi => (by simp (disch := omega) only [zz_u_off, zz_u_ne, zz_u_same])) hG
  · refine ⟨by simp (disch := omega) only [zz_u_off, zz_u_ne, zz_u_same]; exact hH.1, fun q hq => ?_⟩
    by_cases e : q = k
    · rw [e]
      unfold zi_h
      simp (disch := omega) only [zz_u_ne, zz_u_same]
      exact ⟨g1, g2, g3, g4, g5, g6, ⟨by decide, by decide⟩, g8, g9, g10, g11, g12⟩
    · have h9 := hH.2 q hq
      unfold zi_h at h9 ⊢
      simp (disch := omega) only [zz_u_off, zz_u_ne]
      exact h9
/-- what a finding rests on -/
theorem zi_li_ext {S T : zz_S} (h : ∀ k f : Nat, k < 61 → T k f = S k f) {i j : Nat} (hi : i < 24) (hj : j < 24) : zz_li T i j = zz_li S i j := by
  unfold zz_li
  rw [h (13 + i) 1 (by omega), h (13 + j) 1 (by omega), h (13 + i) 0 (by omega), h (13 + j) 0 (by omega)]
theorem zi_ln_ext {S T : zz_S} (h : ∀ k f : Nat, k < 61 → T k f = S k f) {i : Nat} (hi : i < 24) : ∀ j : Nat, j ≤ 24 → zz_ln T i j = zz_ln S i j
  | 0, _ => rfl
  | j + 1, hj => by rw [zz_ln, zz_ln, zi_ln_ext h hi j (by omega), zi_li_ext h hi (by omega)]
theorem zi_ls_ext {S T : zz_S} (h : ∀ k f : Nat, k < 61 → T k f = S k f) {i : Nat} (hi : i < 24) : ∀ j : Nat, j ≤ 24 → zz_ls T i j = zz_ls S i j
  | 0, _ => rfl
  | j + 1, hj => by rw [zz_ls, zz_ls, zi_ls_ext h hi j (by omega), zi_li_ext h hi (by omega), h (13 + j) 3 (by omega)]
theorem zi_ft_ext {S T : zz_S} (h : ∀ k f : Nat, k < 61 → T k f = S k f) (ha : 0 ≤ S 0 7 ∧ S 0 7 ≤ 24) {i : Nat} (hi : i < 24) : zz_ft T i = zz_ft S i := by
  unfold zz_ft zz_fr zz_un
  rw [show T 8 = S 8 from funext fun f => h 8 f (by omega), show T 9 = S 9 from funext fun f => h 9 f (by omega), show T 10 = S 10 from funext fun f => h 10 f (by omega), h 7 3 (by omega), h 0 7 (by omega), zi_ln_ext h hi _ (by omega), zi_ls_ext h hi _ (by omega), h (13 + i) 1 (by omega), h (13 + i) 2 (by omega), h (13 + i) 3 (by omega)]
theorem zk_find {T : zz_S} {n k : Nat} (h : zi_ T n) (hk : (k : Int) < T 0 9) : zi_ (zz_u (zz_u T (61 + k) 7 (zz_ft T (T (61 + k) 0).toNat)) (61 + k) 1 1) n ∧ zz_ft (zz_u (zz_u T (61 + k) 7 (zz_ft T (T (61 + k) 0).toNat)) (61 + k) 1 1) (T (61 + k) 0).toNat = zz_ft T (T (61 + k) 0).toNat ∧ zz_ab (zz_u (zz_u T (61 + k) 7 (zz_ft T (T (61 + k) 0).toNat)) (61 + k) 1 1) k 0 = 1 ∧ zz_ab (zz_u (zz_u T (61 + k) 7 (zz_ft T (T (61 + k) 0).toNat)) (61 + k) 1 1) k 1 = T (61 + k) 0 ∧ zz_ab (zz_u (zz_u T (61 + k) 7 (zz_ft T (T (61 + k) 0).toNat)) (61 + k) 1 1) k 5 = zz_ft T (T (61 + k) 0).toNat ∧ zz_u (zz_u T (61 + k) 7 (zz_ft T (T (61 + k) 0).toNat)) (61 + k) 1 1 (61 + k) 1 = 1 := by
  obtain ⟨hA, hB, hC, hD, hE, hF, hG, hH⟩ := h
  obtain ⟨g1, g2, g3, g4, g5, g6, g7, g8, g9, g10, g11, g12⟩ := hH.2 k (by have h9 := hH.1; omega)
  have hh1 := hH.1
  have hf1 := hF.1
  have g10' := g10 hk
  have hr := zz_ft_rng T (T (61 + k) 0).toNat
  have ext := zi_ft_ext (S := T) (T := zz_u (zz_u T (61 + k) 7 (zz_ft T (T (61 + k) 0).toNat)) (61 + k) 1 1) (fun i f hi => by rw [zz_u_ne _ _ (by omega), zz_u_ne _ _ (by omega)]) hf1 (i := (T (61 + k) 0).toNat) (by omega)
  obtain ⟨ft, hft⟩ : ∃ ft : Int, ft = zz_ft T (T (61 + k) 0).toNat := ⟨_, rfl⟩
  rw [← hft] at hr ext ⊢
  refine ⟨⟨?_, ?_, ?_, ?_, ?_, ?_, ?_, ?_⟩, ext, ?_, ?_, ?_, ?_⟩
  · exact zi_A_tr (by simp (disch := omega) only [zz_u_off, zz_u_ne, zz_u_same]) (by simp (disch := omega) only [zz_u_off, zz_u_ne, zz_u_same]) hA
  · exact zi_B_tr (by simp (disch := omega) only [zz_u_off, zz_u_ne, zz_u_same]) (by simp (disch := omega) only [zz_u_off, zz_u_ne, zz_u_same]) hB
  · exact zi_C_tr (by simp (disch := omega) only [zz_u_off, zz_u_ne, zz_u_same]) hC
  · exact zi_D_tr (Nat.le_refl _) (by simp (disch := omega) only [zz_u_off, zz_u_ne, zz_u_same]) (by simp (disch := omega) only [zz_u_off, zz_u_ne, zz_u_same]) (by simp (disch := omega) only [zz_u_off, zz_u_ne, zz_u_same]) (by simp (disch := omega) only [zz_u_off, zz_u_ne, zz_u_same]) (by first | (simp (disch := omega) only [zz_u_off, zz_u_ne, zz_u_same]; omega) | (simp (disch := omega) only [zz_u_off, zz_u_ne, zz_u_same]; exact Int.le_refl _) | (simp (disch := omega) only [zz_u_off, zz_u_ne, zz_u_same, Int.le_refl])) (by first | (simp (disch := omega) only [zz_u_off, zz_u_ne, zz_u_same]; omega) | (simp (disch := omega) only [zz_u_off, zz_u_ne, zz_u_same]; exact Int.le_refl _) | (simp (disch := omega) only [zz_u_off, zz_u_ne, zz_u_same, Int.le_refl])) hD
  · exact zi_E_tr (Nat.le_refl _) (by simp (disch := omega) only [zz_u_off, zz_u_ne, zz_u_same]) (by simp (disch := omega) only [zz_u_off, zz_u_ne, zz_u_same]) hE
  · exact zi_F_tr (by simp (disch := omega) only [zz_u_off, zz_u_ne, zz_u_same]) (fun i hi => (by simp (disch := omega) only [zz_u_off, zz_u_ne, zz_u_same])) (by first | (simp (disch := omega) only [zz_u_off, zz_u_ne, zz_u_same]; omega) | (simp (disch := omega) only [zz_u_off, zz_u_ne, zz_u_same]; exact Int.le_refl _) | (simp (disch := omega) only [zz_u_off, zz_u_ne, zz_u_same, Int.le_refl])) hF
  · exact zi_G_tr (by simp (disch := omega) only [zz_u_off, zz_u_ne, zz_u_same]) (fun i hi => (by simp (disch := omega) only [zz_u_off, zz_u_ne, zz_u_same])) hG
  · refine ⟨by simp (disch := omega) only [zz_u_off, zz_u_ne, zz_u_same]; exact hH.1, fun q hq => ?_⟩
    by_cases e : q = k
    · rw [e]
      unfold zi_h
      simp (disch := omega) only [zz_u_ne, zz_u_same]
      exact ⟨g1, ⟨by decide, by decide⟩, g3, g4, g5, g6, g7, ⟨by omega, by omega⟩, g9, g10, g11, fun _ => by omega⟩
    · have h9 := hH.2 q hq
      unfold zi_h at h9 ⊢
      simp (disch := omega) only [zz_u_off, zz_u_ne]
      exact h9
  · unfold zz_ab
    simp (disch := omega) only [zz_u_ne, zz_u_same]
    rfl
  · unfold zz_ab
    simp (disch := omega) only [zz_u_ne, zz_u_same]
    rfl
  · unfold zz_ab
    simp (disch := omega) only [zz_u_ne, zz_u_same]
    rfl
  · simp (disch := omega) only [zz_u_ne, zz_u_same]
