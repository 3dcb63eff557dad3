set_option maxHeartbeats 4000000 in
set_option maxRecDepth 100000 in
theorem zs_world {G : zz_G} {a : Nat → Nat} {E : Nat → va_E} {H : Heap} {A : Nat → Prop} (h3 : zs_3 G a E) (h4 : zs_4 G a E) (h5 : E 99 = .inl (G.2 5, 1, .inr (.inl (fun _ => Int64.ofInt 0)))) (hP : va_P G.1 vwCl (zc_W a E 100) H) (hD : va_D A (zc_W a E 100)) : va_P G.1 vwCl (zz_W G (fun k => a (zs_g k)) zs0) H ∧ va_D A (zz_W G (fun k => a (zs_g k)) zs0) := by
  obtain ⟨b, hb⟩ : ∃ b : Nat → Nat, b = fun k => a (zs_g k) := ⟨_, rfl⟩
  rw [← hb]
  have hbk : ∀ k : Nat, a (zs_g k) = b k := fun k => by rw [hb]
  obtain ⟨e0, e1, e2, e3, e4, e5, e6, e7, e8, e9, e10, ⟨f1, e11, p11⟩, eA, ⟨f2, e60, p60⟩, eC⟩ := h3
  obtain ⟨E77, E78, E79, E80, E81, E82, E83, E84, E85, E86, E87, E88, E89, E90, E91, E92, E93, E94, E95, E96, E97, E98⟩ := h4
  obtain ⟨E2, hE2⟩ : ∃ E2 : Nat → va_E, E2 = va_up (va_up E 11 (.inl (G.2 3, 24, .inr (.inr (.inr (.inr (fun i => (some (13 + i)).map b))))))) 60 (.inl (G.2 4, 16, .inr (.inr (.inr (.inr (fun i => (some (61 + i)).map b)))))) := ⟨_, rfl⟩
  have x11 : E2 11 = .inl (G.2 3, 24, .inr (.inr (.inr (.inr (fun i => (some (13 + i)).map b))))) := by rw [hE2, va_up_ne _ _ (by omega), va_up_self]
  have x60 : E2 60 = .inl (G.2 4, 16, .inr (.inr (.inr (.inr (fun i => (some (61 + i)).map b))))) := by rw [hE2, va_up_self]
  have xo : ∀ k : Nat, k ≠ 11 → k ≠ 60 → E2 k = E k := fun k h1 h2 => by rw [hE2, va_up_ne _ _ h2, va_up_ne _ _ h1]
  have hP2 : va_P G.1 vwCl (zc_W a E2 100) H := by
    refine zc_P2 hP (fun k hk => ?_)
    by_cases q1 : k = 11
    · refine Or.inr ⟨G.2 3, 24, f1, _, by rw [q1]; exact e11, by rw [q1]; exact x11, fun j hj => ?_⟩
      rw [p11 j hj]
      show some (a (12 + 2 * j)) = some (b (13 + j))
      rw [← hbk, zs_g_act hj]
    · by_cases q2 : k = 60
      · refine Or.inr ⟨G.2 4, 16, f2, _, by rw [q2]; exact e60, by rw [q2]; exact x60, fun j hj => ?_⟩
        rw [p60 j hj]
        show some (a (61 + j)) = some (b (61 + j))
        rw [← hbk, zs_g_cm]
      · exact Or.inl (xo k q1 q2)
  have hD2 : va_D A (zc_W a E2 100) := zc_D2 hD
  have hEq : ∀ k : Nat, k < 100 → E2 (zs_g k) = zz_c G b (zz_k k) (zs0 k) := by
    intro k hk
    have hcs : k = 0 ∨ k = 1 ∨ k = 2 ∨ k = 3 ∨ k = 4 ∨ k = 5 ∨ k = 6 ∨ k = 7 ∨ k = 8 ∨ k = 9 ∨ k = 10 ∨ k = 11 ∨ k = 12 ∨ k = 77 ∨ k = 78 ∨ k = 79 ∨ k = 80 ∨ k = 81 ∨ k = 82 ∨ k = 83 ∨ k = 84 ∨ k = 85 ∨ k = 86 ∨ k = 87 ∨ k = 88 ∨ k = 89 ∨ k = 90 ∨ k = 91 ∨ k = 92 ∨ k = 93 ∨ k = 94 ∨ k = 95 ∨ k = 96 ∨ k = 97 ∨ k = 98 ∨ k = 99 ∨ (13 ≤ k ∧ k < 37) ∨ (37 ≤ k ∧ k < 61) ∨ (61 ≤ k ∧ k < 77) := by omega
    rcases hcs with rfl | rfl | rfl | rfl | rfl | rfl | rfl | rfl | rfl | rfl | rfl | rfl | rfl | rfl | rfl | rfl | rfl | rfl | rfl | rfl | rfl | rfl | rfl | rfl | rfl | rfl | rfl | rfl | rfl | rfl | rfl | rfl | rfl | rfl | rfl | rfl | hk2 | hk2 | hk2
    · skip
      rw [show zs_g 0 = 0 from rfl, xo 0 (by decide) (by decide), e0, show a 1 = b 1 from hbk 1, show a 2 = b 2 from hbk 2, show a 3 = b 3 from hbk 3, show a 7 = b 7 from hbk 7, show a 11 = b 11 from hbk 11, show a 60 = b 12 from hbk 12]
      rfl
    · skip
      rw [show zs_g 1 = 1 from rfl, xo 1 (by decide) (by decide), e1]
      rfl
    · skip
      rw [show zs_g 2 = 2 from rfl, xo 2 (by decide) (by decide), e2]
      rfl
    · skip
      rw [show zs_g 3 = 3 from rfl, xo 3 (by decide) (by decide), e3, show a 4 = b 4 from hbk 4, show a 5 = b 5 from hbk 5, show a 6 = b 6 from hbk 6]
      rfl
    · skip
      rw [show zs_g 4 = 4 from rfl, xo 4 (by decide) (by decide), e4]
      rfl
    · skip
      rw [show zs_g 5 = 5 from rfl, xo 5 (by decide) (by decide), e5]
      rfl
    · skip
      rw [show zs_g 6 = 6 from rfl, xo 6 (by decide) (by decide), e6]
      rfl
    · skip
      rw [show zs_g 7 = 7 from rfl, xo 7 (by decide) (by decide), e7, show a 8 = b 8 from hbk 8, show a 9 = b 9 from hbk 9, show a 10 = b 10 from hbk 10]
      rfl
    · skip
      rw [show zs_g 8 = 8 from rfl, xo 8 (by decide) (by decide), e8]
      rfl
    · skip
      rw [show zs_g 9 = 9 from rfl, xo 9 (by decide) (by decide), e9]
      rfl
    · skip
      rw [show zs_g 10 = 10 from rfl, xo 10 (by decide) (by decide), e10]
      rfl
    · skip
      exact x11
    · skip
      exact x60
    · skip
      rw [show zs_g 77 = 77 from rfl, xo 77 (by decide) (by decide), E77, show a 78 = b 78 from hbk 78, show a 79 = b 79 from hbk 79, show a 80 = b 80 from hbk 80, show a 81 = b 81 from hbk 81, show a 82 = b 82 from hbk 82, show a 83 = b 83 from hbk 83, show a 84 = b 84 from hbk 84, show a 85 = b 85 from hbk 85, show a 86 = b 86 from hbk 86, show a 87 = b 87 from hbk 87, show a 88 = b 88 from hbk 88, show a 89 = b 89 from hbk 89, show a 90 = b 90 from hbk 90, show a 91 = b 91 from hbk 91, show a 92 = b 92 from hbk 92, show a 93 = b 93 from hbk 93, show a 94 = b 94 from hbk 94, show a 95 = b 95 from hbk 95, show a 96 = b 96 from hbk 96, show a 97 = b 97 from hbk 97, show a 98 = b 98 from hbk 98]
      rfl
    · skip
      rw [show zs_g 78 = 78 from rfl, xo 78 (by decide) (by decide), E78]
      rfl
    · skip
      rw [show zs_g 79 = 79 from rfl, xo 79 (by decide) (by decide), E79]
      rfl
    · skip
      rw [show zs_g 80 = 80 from rfl, xo 80 (by decide) (by decide), E80]
      rfl
    · skip
      rw [show zs_g 81 = 81 from rfl, xo 81 (by decide) (by decide), E81]
      rfl
    · skip
      rw [show zs_g 82 = 82 from rfl, xo 82 (by decide) (by decide), E82]
      rfl
    · skip
      rw [show zs_g 83 = 83 from rfl, xo 83 (by decide) (by decide), E83]
      rfl
    · skip
      rw [show zs_g 84 = 84 from rfl, xo 84 (by decide) (by decide), E84]
      rfl
    · skip
      rw [show zs_g 85 = 85 from rfl, xo 85 (by decide) (by decide), E85]
      rfl
    · skip
      rw [show zs_g 86 = 86 from rfl, xo 86 (by decide) (by decide), E86]
      rfl
    · skip
      rw [show zs_g 87 = 87 from rfl, xo 87 (by decide) (by decide), E87]
      rfl
    · skip
      rw [show zs_g 88 = 88 from rfl, xo 88 (by decide) (by decide), E88]
      rfl
    · skip
      rw [show zs_g 89 = 89 from rfl, xo 89 (by decide) (by decide), E89]
      rfl
    · skip
      rw [show zs_g 90 = 90 from rfl, xo 90 (by decide) (by decide), E90]
      rfl
    · skip
      rw [show zs_g 91 = 91 from rfl, xo 91 (by decide) (by decide), E91]
      rfl
    · skip
      rw [show zs_g 92 = 92 from rfl, xo 92 (by decide) (by decide), E92]
      rfl
    · skip
      rw [show zs_g 93 = 93 from rfl, xo 93 (by decide) (by decide), E93]
      rfl
    · skip
      rw [show zs_g 94 = 94 from rfl, xo 94 (by decide) (by decide), E94]
      rfl
    · skip
      rw [show zs_g 95 = 95 from rfl, xo 95 (by decide) (by decide), E95]
      rfl
    · skip
      rw [show zs_g 96 = 96 from rfl, xo 96 (by decide) (by decide), E96]
      rfl
    · skip
      rw [show zs_g 97 = 97 from rfl, xo 97 (by decide) (by decide), E97]
      rfl
    · skip
      rw [show zs_g 98 = 98 from rfl, xo 98 (by decide) (by decide), E98]
      rfl
    · skip
      rw [show zs_g 99 = 99 from rfl, xo 99 (by decide) (by decide), h5]
      rfl
    · obtain ⟨i, rfl⟩ : ∃ i : Nat, k = 13 + i := ⟨k - 13, by omega⟩
      have hi : i < 24 := by omega
      rw [zs_g_act hi, xo _ (by omega) (by omega), (eA i hi).1, zz_act hi, zs0_act hi, show a (13 + 2 * i) = b (37 + i) from by rw [← hbk, zs_g_pl hi]]
      rfl
    · obtain ⟨i, rfl⟩ : ∃ i : Nat, k = 37 + i := ⟨k - 37, by omega⟩
      have hi : i < 24 := by omega
      rw [zs_g_pl hi, xo _ (by omega) (by omega), (eA i hi).2, zz_plea hi, zs0_pl hi]
      rfl
    · obtain ⟨i, rfl⟩ : ∃ i : Nat, k = 61 + i := ⟨k - 61, by omega⟩
      have hi : i < 16 := by omega
      rw [zs_g_cm, xo _ (by omega) (by omega), eC i hi, zz_cmp hi, zs0_z (by omega) (by omega) (by omega) (by omega)]
      rfl
  have hgt : ∀ (k : Nat) (q : Nat × va_E), (zz_W G b zs0)[k]? = some q → (zc_W a E2 100)[zs_g k]? = some q := by
    intro k q hq
    have hk : k < 100 := by
      have h9 := (List.getElem?_eq_some_iff.mp hq).1
      rw [zz_W_len] at h9
      exact h9
    rw [zz_W_get hk, ← hEq k hk, ← hbk] at hq
    rw [zc_get (zs_g_lt hk)]
    exact hq
  exact ⟨hP2.by zs_g hgt, hD2.by zs_g hgt (fun i j _ _ h => zs_g_in h)⟩
