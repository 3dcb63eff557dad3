set_option maxHeartbeats 4000000 in
set_option maxRecDepth 100000 in
theorem zs_hall {G : zz_G} {a b : Nat → Nat} {E : Nat → va_E} (h3 : zs_3 G a E) (hbk : ∀ k : Nat, k < 77 → a (zs_g k) = b k) : ∀ k : Nat, k < 77 → zs_q (E (zs_g k)) (zz_c G b (zz_k k) (zs0 k)) := by
  obtain ⟨e0, e1, e2, e3, e4, e5, e6, e7, e8, e9, e10, ⟨f1, e11, p11⟩, eA, ⟨f2, e60, p60⟩, eC⟩ := h3
  intro k hk
  have hcs : k = 0 ∨ k = 1 ∨ k = 2 ∨ k = 3 ∨ k = 4 ∨ k = 5 ∨ k = 6 ∨ k = 7 ∨ k = 8 ∨ k = 9 ∨ k = 10 ∨ k = 11 ∨ k = 12 ∨ (13 ≤ k ∧ k < 37) ∨ (37 ≤ k ∧ k < 61) ∨ (61 ≤ k ∧ k < 77) := by omega
  rcases hcs with rfl | rfl | rfl | rfl | rfl | rfl | rfl | rfl | rfl | rfl | rfl | rfl | rfl | hk2 | hk2 | hk2
  · refine Or.inl ?_
    rw [show zs_g 0 = 0 from rfl, e0, show a 1 = b 1 from hbk 1 (by decide), show a 2 = b 2 from hbk 2 (by decide), show a 3 = b 3 from hbk 3 (by decide), show a 7 = b 7 from hbk 7 (by decide), show a 11 = b 11 from hbk 11 (by decide), show a 60 = b 12 from hbk 12 (by decide)]
    rfl
  · refine Or.inl ?_
    rw [show zs_g 1 = 1 from rfl, e1]
    rfl
  · refine Or.inl ?_
    rw [show zs_g 2 = 2 from rfl, e2]
    rfl
  · refine Or.inl ?_
    rw [show zs_g 3 = 3 from rfl, e3, show a 4 = b 4 from hbk 4 (by decide), show a 5 = b 5 from hbk 5 (by decide), show a 6 = b 6 from hbk 6 (by decide)]
    rfl
  · refine Or.inl ?_
    rw [show zs_g 4 = 4 from rfl, e4]
    rfl
  · refine Or.inl ?_
    rw [show zs_g 5 = 5 from rfl, e5]
    rfl
  · refine Or.inl ?_
    rw [show zs_g 6 = 6 from rfl, e6]
    rfl
  · refine Or.inl ?_
    rw [show zs_g 7 = 7 from rfl, e7, show a 8 = b 8 from hbk 8 (by decide), show a 9 = b 9 from hbk 9 (by decide), show a 10 = b 10 from hbk 10 (by decide)]
    rfl
  · refine Or.inl ?_
    rw [show zs_g 8 = 8 from rfl, e8]
    rfl
  · refine Or.inl ?_
    rw [show zs_g 9 = 9 from rfl, e9]
    rfl
  · refine Or.inl ?_
    rw [show zs_g 10 = 10 from rfl, e10]
    rfl
  · refine Or.inr ⟨G.2.1 2, 24, f1, fun i => (some (13 + i)).map b, e11, rfl, fun j hj => ?_⟩
    rw [p11 j hj, ← zs_g_act hj, hbk _ (by omega)]
    rfl
  · refine Or.inr ⟨G.2.1 3, 16, f2, fun i => (some (61 + i)).map b, e60, rfl, fun j hj => ?_⟩
    rw [p60 j hj, ← zs_g_cm (i := j), hbk _ (by omega)]
    rfl
  · obtain ⟨i, rfl⟩ : ∃ i : Nat, k = 13 + i := ⟨k - 13, by omega⟩
    have hi : i < 24 := by omega
    refine Or.inl ?_
    rw [zs_g_act hi, (eA i hi).1, zz_act hi, zs0_act hi, show a (13 + 2 * i) = b (37 + i) from by rw [← hbk _ (by omega), zs_g_pl hi]]
    rfl
  · obtain ⟨i, rfl⟩ : ∃ i : Nat, k = 37 + i := ⟨k - 37, by omega⟩
    have hi : i < 24 := by omega
    refine Or.inl ?_
    rw [zs_g_pl hi, (eA i hi).2, zz_plea hi, zs0_pl hi]
    rfl
  · obtain ⟨i, rfl⟩ : ∃ i : Nat, k = 61 + i := ⟨k - 61, by omega⟩
    have hi : i < 16 := by omega
    refine Or.inl ?_
    rw [zs_g_cm, eC i hi, zz_cmp hi, zs0_z (by omega)]
    rfl
def zs_b (a1 a2 : Nat → Nat) (k : Nat) : Nat := if k < 77 then a1 (zs_g k) else a2 (zs_g (k - 77))
def zs_p (k : Nat) : Nat := if k < 77 then zs_g k else if k < 154 then 77 + zs_g (k - 77) else k
theorem zs_p_in (i j : Nat) (h : zs_p i = zs_p j) : i = j := by
  unfold zs_p at h
  by_cases i1 : i < 77
  · have l1 := zs_g_lt i1
    rw [if_pos i1] at h
    by_cases j1 : j < 77
    · rw [if_pos j1] at h
      exact zs_g_in h
    · rw [if_neg j1] at h
      by_cases j2 : j < 154
      · rw [if_pos j2] at h
        omega
      · rw [if_neg j2] at h
        omega
  · rw [if_neg i1] at h
    by_cases i2 : i < 154
    · have l1 := zs_g_lt (k := i - 77) (by omega)
      rw [if_pos i2] at h
      by_cases j1 : j < 77
      · have l2 := zs_g_lt j1
        rw [if_pos j1] at h
        omega
      · rw [if_neg j1] at h
        by_cases j2 : j < 154
        · rw [if_pos j2] at h
          have h9 := zs_g_in (i := i - 77) (j := j - 77) (by omega)
          omega
        · rw [if_neg j2] at h
          omega
    · rw [if_neg i2] at h
      by_cases j1 : j < 77
      · have l2 := zs_g_lt j1
        rw [if_pos j1] at h
        omega
      · rw [if_neg j1] at h
        by_cases j2 : j < 154
        · have l2 := zs_g_lt (k := j - 77) (by omega)
          rw [if_pos j2] at h
          omega
        · rw [if_neg j2] at h
          exact h
theorem zs_world {G : zz_G} {a1 a2 : Nat → Nat} {E1 E2 : Nat → va_E} {ad : Nat} {H : Heap} {A : Nat → Prop} (h1 : zs_3 G a1 E1) (h2 : zs_3 G a2 E2) (hP : va_P G.1 vwCl (zc_W (zc_W [] a1 E1 77) (va_up a2 77 ad) (va_up E2 77 (.inl (G.2.1 0, 4, .inl (fun _ => Int32.ofInt 0)))) 78) H) (hD : va_D A (zc_W (zc_W [] a1 E1 77) (va_up a2 77 ad) (va_up E2 77 (.inl (G.2.1 0, 4, .inl (fun _ => Int32.ofInt 0)))) 78)) : va_P G.1 vwCl (zy_W G (zs_b a1 a2) [ad] (zs0, zs0, zs_v)) H ∧ va_D A (zy_W G (zs_b a1 a2) [ad] (zs0, zs0, zs_v)) := by
  have hZ : (zc_W [] a1 E1 77).length = 77 := by rw [zc_len]; rfl
  have b1 : ∀ k : Nat, k < 77 → a1 (zs_g k) = zs_b a1 a2 k := fun k hk => by unfold zs_b; rw [if_pos hk]
  have b2 : ∀ k : Nat, k < 77 → a2 (zs_g k) = zs_b a1 a2 (77 + k) := fun k hk => by unfold zs_b; rw [if_neg (by omega), show 77 + k - 77 = k by omega]
  have k1 := zs_hall h1 b1
  have k2 := zs_hall (b := fun q => zs_b a1 a2 (77 + q)) h2 b2
  refine zs_perm zs_p (fun k q hq => ?_) zs_p_in hP hD
  rw [zy_W1] at hq
  by_cases c1 : k < 77
  · rw [List.getElem?_append_left (by rw [zy_l1]; exact c1)] at hq
    have hq1 : (zy_h1 G (zs_b a1 a2) zs0)[k]? = some (zs_b a1 a2 k, zz_c G (zs_b a1 a2) (zz_k k) (zs0 k)) := by
      unfold zy_h1
      rw [List.getElem?_map, List.getElem?_range c1]
      rfl
    have hq2 := Option.some.inj (hq1.symm.trans hq)
    subst hq2
    refine ⟨E1 (zs_g k), ?_, k1 k c1⟩
    have l1 := zs_g_lt c1
    have e9 : zs_p k = ([] : va_W).length + zs_g k := by unfold zs_p; rw [if_pos c1]; simp
    rw [zc_low (by rw [hZ]; unfold zs_p; rw [if_pos c1]; exact l1), e9, zc_get l1, b1 k c1]
  · rw [List.getElem?_append_right (by rw [zy_l1]; omega), zy_l1] at hq
    by_cases c2 : k < 154
    · rw [List.getElem?_append_left (by rw [zy_l2]; omega)] at hq
      have hq1 : (zy_h2 G (zs_b a1 a2) zs0)[k - 77]? = some (zs_b a1 a2 (77 + (k - 77)), zz_c G (fun q => zs_b a1 a2 (77 + q)) (zz_k (k - 77)) (zs0 (k - 77))) := by
        unfold zy_h2
        rw [List.getElem?_map, List.getElem?_range (by omega)]
        rfl
      have hq2 := Option.some.inj (hq1.symm.trans hq)
      subst hq2
      have l1 := zs_g_lt (k := k - 77) (by omega)
      refine ⟨E2 (zs_g (k - 77)), ?_, k2 (k - 77) (by omega)⟩
      have e9 : zs_p k = (zc_W [] a1 E1 77).length + zs_g (k - 77) := by unfold zs_p; rw [if_neg c1, if_pos c2, hZ]
      rw [e9, zc_get (by omega), va_up_ne _ _ (by omega), va_up_ne _ _ (by omega), b2 _ (by omega)]
    · rw [List.getElem?_append_right (by rw [zy_l2]; omega), zy_l2] at hq
      have c3 : k = 154 := by
        have h9 := (List.getElem?_eq_some_iff.mp hq).1
        have h8 : (zy_ar G (zs_b a1 a2) [ad] zs_v).length = 1 := by unfold zy_ar; rw [List.length_map, List.length_range]; rfl
        rw [h8] at h9
        omega
      subst c3
      have hq2 : (ad, (.inl (G.2.1 0, 4, .inl (fun _ => Int32.ofInt 0)) : va_E)) = q := Option.some.inj hq
      subst hq2
      refine ⟨_, ?_, Or.inl rfl⟩
      rw [show zs_p 154 = (zc_W [] a1 E1 77).length + 77 by rw [hZ]; rfl, zc_get (by decide), va_up_self, va_up_self]
