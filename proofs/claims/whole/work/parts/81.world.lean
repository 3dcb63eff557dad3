/-! the first world -/
def zs_3 (G : zz_G) (a : Nat → Nat) (E : Nat → va_E) : Prop := E 0 = .inr (3, [.ref (a 1), zz_v 0, .ref (a 2), zz_v 0, .ref (a 3), .ref (a 7), .ref (a 11), zz_v 0, .ref (a 60), zz_v 0, zz_v 0]) ∧ E 1 = .inl (G.2 1, 7, .inl (fun _ => Int32.ofInt 0)) ∧ E 2 = .inl (G.2 0, 10, .inl (fun _ => Int32.ofInt 0)) ∧ E 3 = .inr (1, [.ref (a 4), .ref (a 5), .ref (a 6), zz_v 0]) ∧ E 4 = .inl (G.2 0, 512, .inl (fun _ => Int32.ofInt 0)) ∧ E 5 = .inl (G.2 0, 512, .inl (fun _ => Int32.ofInt 0)) ∧ E 6 = .inl (G.2 0, 512, .inl (fun _ => Int32.ofInt 0)) ∧ E 7 = .inr (1, [.ref (a 8), .ref (a 9), .ref (a 10), zz_v 0]) ∧ E 8 = .inl (G.2 0, 512, .inl (fun _ => Int32.ofInt 0)) ∧ E 9 = .inl (G.2 0, 512, .inl (fun _ => Int32.ofInt 0)) ∧ E 10 = .inl (G.2 0, 512, .inl (fun _ => Int32.ofInt 0)) ∧ (∃ f : Nat → Option Nat, E 11 = .inl (G.2 3, 24, .inr (.inr (.inr (.inr f)))) ∧ ∀ q : Nat, q < 24 → f q = some (a (12 + 2 * q))) ∧ (∀ q : Nat, q < 24 → E (12 + 2 * q) = .inr (0, [zz_v 0, zz_v 0, zz_v 0, zz_v 0, zz_v 0, zz_v 0, zz_v 0, zz_v (-1), .ref (a (13 + 2 * q))]) ∧ E (13 + 2 * q) = .inl (G.2 0, 10, .inl (fun q => Int32.ofInt (if q < 10 then (-1) else 0)))) ∧ (∃ f : Nat → Option Nat, E 60 = .inl (G.2 4, 16, .inr (.inr (.inr (.inr f)))) ∧ ∀ q : Nat, q < 16 → f q = some (a (61 + q))) ∧ ∀ q : Nat, q < 16 → E (61 + q) = .inr (2, [zz_v 0, zz_v 0, zz_v 0, zz_v 0, zz_v 0, zz_v 0, zz_v 0, zz_v 0])
def zs_4 (G : zz_G) (a : Nat → Nat) (E : Nat → va_E) : Prop := E 77 = .inr (4, [zz_v 0, .ref (a 78), zz_v 0, zz_v 0, .ref (a 79), .ref (a 80), .ref (a 81), zz_v 0, .ref (a 82), .ref (a 83), .ref (a 84), .ref (a 85), .ref (a 86), .ref (a 87), .ref (a 88), .ref (a 89), .ref (a 90), zz_v 0, .ref (a 91), .ref (a 92), .ref (a 93), .ref (a 94), .ref (a 95), .ref (a 96), .ref (a 97), .ref (a 98), zz_v 0]) ∧ E 78 = .inl (G.2 0, 7, .inl (fun _ => Int32.ofInt 0)) ∧ E 79 = .inl (G.2 0, 10, .inl (fun _ => Int32.ofInt 0)) ∧ E 80 = .inl (G.2 0, 50010, .inl (fun _ => Int32.ofInt 0)) ∧ E 81 = .inl (G.2 0, 20004, .inl (fun q => Int32.ofInt (if q < 20004 then 30 else 0))) ∧ E 82 = .inl (G.2 0, 24, .inl (fun _ => Int32.ofInt 0)) ∧ E 83 = .inl (G.2 0, 24, .inl (fun _ => Int32.ofInt 0)) ∧ E 84 = .inl (G.2 0, 24, .inl (fun _ => Int32.ofInt 0)) ∧ E 85 = .inl (G.2 0, 24, .inl (fun _ => Int32.ofInt 0)) ∧ E 86 = .inl (G.2 0, 24, .inl (fun _ => Int32.ofInt 0)) ∧ E 87 = .inl (G.2 2, 24, .inl (fun _ => Int32.ofInt 0)) ∧ E 88 = .inl (G.2 2, 24, .inl (fun _ => Int32.ofInt 0)) ∧ E 89 = .inl (G.2 0, 24, .inl (fun q => Int32.ofInt (if q < 24 then (-1) else 0))) ∧ E 90 = .inl (G.2 0, 240, .inl (fun q => Int32.ofInt (if q < 240 then (-1) else 0))) ∧ E 91 = .inl (G.2 0, 16, .inl (fun _ => Int32.ofInt 0)) ∧ E 92 = .inl (G.2 0, 16, .inl (fun _ => Int32.ofInt 0)) ∧ E 93 = .inl (G.2 0, 16, .inl (fun _ => Int32.ofInt 0)) ∧ E 94 = .inl (G.2 0, 16, .inl (fun _ => Int32.ofInt 0)) ∧ E 95 = .inl (G.2 0, 16, .inl (fun _ => Int32.ofInt 0)) ∧ E 96 = .inl (G.2 2, 16, .inl (fun _ => Int32.ofInt 0)) ∧ E 97 = .inl (G.2 2, 16, .inl (fun _ => Int32.ofInt 0)) ∧ E 98 = .inl (G.2 0, 16, .inl (fun _ => Int32.ofInt 0))
theorem zs_3t {G : zz_G} {a a1 : Nat → Nat} {E E1 : Nat → va_E} (ha : ∀ j : Nat, j < 77 → a j = a1 j) (hE : ∀ j : Nat, j < 77 → E j = E1 j) (h : zs_3 G a1 E1) : zs_3 G a E := by
  unfold zs_3 at *
  rw [hE 0 (by decide), hE 1 (by decide), hE 2 (by decide), hE 3 (by decide), hE 4 (by decide), hE 5 (by decide), hE 6 (by decide), hE 7 (by decide), hE 8 (by decide), hE 9 (by decide), hE 10 (by decide), hE 11 (by decide), hE 60 (by decide), ha 1 (by decide), ha 2 (by decide), ha 3 (by decide), ha 7 (by decide), ha 11 (by decide), ha 60 (by decide), ha 4 (by decide), ha 5 (by decide), ha 6 (by decide), ha 8 (by decide), ha 9 (by decide), ha 10 (by decide)]
  obtain ⟨h0, h1, h2, h3, h4, h5, h6, h7, h8, h9, h10, ⟨f1, h11, h12⟩, h13, ⟨f2, h14, h15⟩, h16⟩ := h
  refine ⟨h0, h1, h2, h3, h4, h5, h6, h7, h8, h9, h10, ⟨f1, h11, fun q hq => ?_⟩, fun q hq => ?_, ⟨f2, h14, fun q hq => ?_⟩, fun q hq => ?_⟩
  · rw [ha _ (by omega)]; exact h12 q hq
  · rw [hE _ (by omega), hE _ (by omega), ha _ (by omega)]; exact h13 q hq
  · rw [ha _ (by omega)]; exact h15 q hq
  · rw [hE _ (by omega)]; exact h16 q hq
theorem zs_4t {G : zz_G} {a a1 : Nat → Nat} {E E1 : Nat → va_E} (ha : ∀ j : Nat, j < 99 → a j = a1 j) (hE : ∀ j : Nat, j < 99 → E j = E1 j) (h : zs_4 G a1 E1) : zs_4 G a E := by
  unfold zs_4 at *
  rw [hE 77 (by decide), hE 78 (by decide), hE 79 (by decide), hE 80 (by decide), hE 81 (by decide), hE 82 (by decide), hE 83 (by decide), hE 84 (by decide), hE 85 (by decide), hE 86 (by decide), hE 87 (by decide), hE 88 (by decide), hE 89 (by decide), hE 90 (by decide), hE 91 (by decide), hE 92 (by decide), hE 93 (by decide), hE 94 (by decide), hE 95 (by decide), hE 96 (by decide), hE 97 (by decide), hE 98 (by decide), ha 78 (by decide), ha 79 (by decide), ha 80 (by decide), ha 81 (by decide), ha 82 (by decide), ha 83 (by decide), ha 84 (by decide), ha 85 (by decide), ha 86 (by decide), ha 87 (by decide), ha 88 (by decide), ha 89 (by decide), ha 90 (by decide), ha 91 (by decide), ha 92 (by decide), ha 93 (by decide), ha 94 (by decide), ha 95 (by decide), ha 96 (by decide), ha 97 (by decide), ha 98 (by decide)]
  exact h
def zs0 : zz_S := fun k f => if 13 ≤ k ∧ k < 37 then (if f = 7 then -1 else 0) else if 37 ≤ k ∧ k < 61 then (if f < 10 then -1 else 0) else if k = 81 then (if f < 20004 then 30 else 0) else if k = 89 then (if f < 24 then -1 else 0) else if k = 90 then (if f < 240 then -1 else 0) else 0
theorem zs0_act {i : Nat} (h : i < 24) : zs0 (13 + i) = fun f => if f = 7 then -1 else 0 := by
  funext f
  unfold zs0
  rw [if_pos ⟨by omega, by omega⟩]
theorem zs0_pl {i : Nat} (h : i < 24) : zs0 (37 + i) = fun f => if f < 10 then -1 else 0 := by
  funext f
  unfold zs0
  rw [if_neg (by omega), if_pos ⟨by omega, by omega⟩]
theorem zs0_z {k : Nat} (h : k < 13 ∨ 61 ≤ k) (h1 : k ≠ 81) (h2 : k ≠ 89) (h3 : k ≠ 90) : zs0 k = fun _ => 0 := by
  funext f
  unfold zs0
  rw [if_neg (by omega), if_neg (by omega), if_neg h1, if_neg h2, if_neg h3]
theorem zs0_81 : zs0 81 = fun f => if f < 20004 then 30 else 0 := rfl
theorem zs0_89 : zs0 89 = fun f => if f < 24 then -1 else 0 := rfl
theorem zs0_90 : zs0 90 = fun f => if f < 240 then -1 else 0 := rfl
theorem zs0_rg : zz_Rg zs0 := by
  intro i j
  have h : -1 ≤ zs0 i j ∧ zs0 i j ≤ 30 := by
    unfold zs0
    repeat' split
    all_goals omega
  exact ⟨by omega, by omega⟩
theorem zs0_r : zr_ zs0 0 := by
  have z : ∀ k f : Nat, (k < 13 ∨ 61 ≤ k) → k ≠ 81 → k ≠ 89 → k ≠ 90 → zs0 k f = 0 := fun k f h h1 h2 h3 => by rw [zs0_z h h1 h2 h3]
  refine ⟨⟨by rw [z, z] <;> omega, by rw [z] <;> omega, fun j hj => by rw [z] at hj <;> omega, fun j hj => by rw [z] <;> omega⟩, ⟨by rw [z, z] <;> omega, by rw [z] <;> omega, fun j hj => by rw [z, z] <;> omega, fun j hj => by rw [z] <;> omega⟩, ⟨by rw [z, z] <;> omega, by rw [z] <;> omega⟩, ⟨by rw [z] <;> omega, fun j hj => by rw [z] <;> omega, fun o d ho hd => ?_⟩, ⟨by rw [z] <;> omega, fun j hj => by rw [z] <;> omega, fun o d ho hd => ?_⟩, ⟨by rw [z, z] <;> omega, by rw [z] <;> omega, fun i hi => ?_⟩, fun i p hi hp => ?_, ⟨by rw [z, z] <;> omega, by rw [z] <;> omega, fun c hc => ?_, fun c d hc hd => ?_⟩⟩
  · rw [z 80 _ (by omega) (by omega) (by omega) (by omega), z 3 3 (by omega) (by omega) (by omega) (by omega)]
    rfl
  · rw [z 7 3 (by omega) (by omega) (by omega) (by omega), zs0_81]
    show (if 5001 * o + d < 20004 then (30 : Int) else 0) = 30
    rw [if_pos (by omega)]
  · unfold zr_f
    rw [zs0_act hi, zs0_89, z 82 _ (by omega) (by omega) (by omega) (by omega), z 83 _ (by omega) (by omega) (by omega) (by omega), z 84 _ (by omega) (by omega) (by omega) (by omega), z 85 _ (by omega) (by omega) (by omega) (by omega), z 86 _ (by omega) (by omega) (by omega) (by omega), z 87 _ (by omega) (by omega) (by omega) (by omega), z 88 _ (by omega) (by omega) (by omega) (by omega)]
    simp [hi]
  · rw [zs0_pl hi, zs0_90]
    show (if p < 10 then (-1 : Int) else 0) = (if 10 * i + p < 240 then -1 else 0) ∧ -1 ≤ (if p < 10 then (-1 : Int) else 0) ∧ (if p < 10 then (-1 : Int) else 0) ≤ 5000
    rw [if_pos hp, if_pos (by omega)]
    omega
  · unfold zr_h
    rw [zs0_z (k := 61 + c) (by omega) (by omega) (by omega) (by omega), zs0_z (k := 91) (by omega) (by omega) (by omega) (by omega), zs0_z (k := 92) (by omega) (by omega) (by omega) (by omega), zs0_z (k := 93) (by omega) (by omega) (by omega) (by omega), zs0_z (k := 94) (by omega) (by omega) (by omega) (by omega), zs0_z (k := 95) (by omega) (by omega) (by omega) (by omega), zs0_z (k := 96) (by omega) (by omega) (by omega) (by omega), zs0_z (k := 97) (by omega) (by omega) (by omega) (by omega), zs0_z (k := 98) (by omega) (by omega) (by omega) (by omega), zs0_z (k := 0) (by omega) (by omega) (by omega) (by omega), zs0_z (k := 77) (by omega) (by omega) (by omega) (by omega)]
    simp
  · rw [z 0 9 (by omega) (by omega) (by omega) (by omega)] at hc
    omega
/-- where a place was made -/
def zs_g (k : Nat) : Nat := if k < 12 then k else if k = 12 then 60 else if k < 37 then 12 + 2 * (k - 13) else if k < 61 then 13 + 2 * (k - 37) else k
theorem zs_g_act {i : Nat} (h : i < 24) : zs_g (13 + i) = 12 + 2 * i := by
  unfold zs_g
  rw [if_neg (by omega), if_neg (by omega), if_pos (by omega)]
  omega
theorem zs_g_pl {i : Nat} (h : i < 24) : zs_g (37 + i) = 13 + 2 * i := by
  unfold zs_g
  rw [if_neg (by omega), if_neg (by omega), if_neg (by omega), if_pos (by omega)]
  omega
theorem zs_g_cm {i : Nat} : zs_g (61 + i) = 61 + i := by
  unfold zs_g
  rw [if_neg (by omega), if_neg (by omega), if_neg (by omega), if_neg (by omega)]
theorem zs_g_lt {k : Nat} (h : k < 100) : zs_g k < 100 := by
  unfold zs_g
  repeat' split
  all_goals omega
theorem zs_g_in {i j : Nat} (h : zs_g i = zs_g j) : i = j := by
  unfold zs_g at h
  repeat' split at h
  all_goals omega
theorem arrV_ext (cA : ClassId) {N : Nat} {f g : Nat → Value} (h : ∀ j : Nat, j < N → f j = g j) : arrV cA N f = arrV cA N g := by
  unfold arrV
  congr 1
  apply Array.ext_getElem?
  intro i
  by_cases hi : i < N
  · simp [hi, h i hi]
  · simp [hi]
theorem zc_D2 {A : Nat → Prop} {a : Nat → Nat} {E E2 : Nat → va_E} {n : Nat} (h : va_D A (zc_W a E n)) : va_D A (zc_W a E2 n) := by
  have key : ∀ (i : Nat) (p : Nat × va_E), (zc_W a E2 n)[i]? = some p → (zc_W a E n)[i]? = some (p.1, E i) := fun i p hp => by
    have hi : i < n := by
      have h9 := (List.getElem?_eq_some_iff.mp hp).1
      rw [zc_len] at h9
      exact h9
    rw [zc_get hi] at hp
    cases hp
    exact zc_get hi
  refine ⟨fun i j p q hp hq e => ?_, fun k q hq => ?_⟩
  · exact h.1 i j (p.1, E i) (q.1, E j) (key i p hp) (key j q hq) e
  · exact h.2 k (q.1, E k) (key k q hq)
theorem zc_P2 {D : va_G} {a : Nat → Nat} {E E2 : Nat → va_E} {n : Nat} {H : Heap} (h : va_P D vwCl (zc_W a E n) H) (he : ∀ k : Nat, k < n → E2 k = E k ∨ ∃ (cA : ClassId) (N : Nat) (f g : Nat → Option Nat), E k = .inl (cA, N, .inr (.inr (.inr (.inr f)))) ∧ E2 k = .inl (cA, N, .inr (.inr (.inr (.inr g)))) ∧ ∀ j : Nat, j < N → f j = g j) : va_P D vwCl (zc_W a E2 n) H := by
  intro k q hq
  have hk : k < n := by
    have h9 := (List.getElem?_eq_some_iff.mp hq).1
    rw [zc_len] at h9
    exact h9
  rw [zc_get hk] at hq
  cases hq
  have h1 := h k _ (zc_get hk)
  rcases he k hk with e | ⟨cA, N, f, g, e1, e2, e3⟩
  · rw [e]; exact h1
  · rw [e1] at h1
    rw [e2]
    have h2 : H[a k]? = some (vp_cell cA (N, .inr (.inr (.inr (.inr f))))) := h1
    show H[a k]? = some (vp_cell cA (N, .inr (.inr (.inr (.inr g)))))
    rw [h2, vp_cell_q, vp_cell_q, arrV_ext cA (fun j hj => by rw [e3 j hj])]
