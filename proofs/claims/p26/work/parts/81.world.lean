/-! the first world -/
def zs_3 (G : zz_G) (a : Nat → Nat) (E : Nat → va_E) : Prop := E 0 = .inr (3, [.ref (a 1), zz_v 0, .ref (a 2), zz_v 0, .ref (a 3), .ref (a 7), .ref (a 11), zz_v 0, .ref (a 60), zz_v 0, zz_v 0]) ∧ E 1 = .inl (G.2.1 1, 7, .inl (fun _ => Int32.ofInt 0)) ∧ E 2 = .inl (G.2.1 0, 10, .inl (fun _ => Int32.ofInt 0)) ∧ E 3 = .inr (1, [.ref (a 4), .ref (a 5), .ref (a 6), zz_v 0]) ∧ E 4 = .inl (G.2.1 0, 512, .inl (fun _ => Int32.ofInt 0)) ∧ E 5 = .inl (G.2.1 0, 512, .inl (fun _ => Int32.ofInt 0)) ∧ E 6 = .inl (G.2.1 0, 512, .inl (fun _ => Int32.ofInt 0)) ∧ E 7 = .inr (1, [.ref (a 8), .ref (a 9), .ref (a 10), zz_v 0]) ∧ E 8 = .inl (G.2.1 0, 512, .inl (fun _ => Int32.ofInt 0)) ∧ E 9 = .inl (G.2.1 0, 512, .inl (fun _ => Int32.ofInt 0)) ∧ E 10 = .inl (G.2.1 0, 512, .inl (fun _ => Int32.ofInt 0)) ∧ (∃ f : Nat → Option Nat, E 11 = .inl (G.2.1 2, 24, .inr (.inr (.inr (.inr f)))) ∧ ∀ q : Nat, q < 24 → f q = some (a (12 + 2 * q))) ∧ (∀ q : Nat, q < 24 → E (12 + 2 * q) = .inr (0, [zz_v 0, zz_v 0, zz_v 0, zz_v 0, zz_v 0, zz_v 0, zz_v 0, zz_v (-1), .ref (a (13 + 2 * q))]) ∧ E (13 + 2 * q) = .inl (G.2.1 0, 10, .inl (fun q => Int32.ofInt (if q < 10 then (-1) else 0)))) ∧ (∃ f : Nat → Option Nat, E 60 = .inl (G.2.1 3, 16, .inr (.inr (.inr (.inr f)))) ∧ ∀ q : Nat, q < 16 → f q = some (a (61 + q))) ∧ ∀ q : Nat, q < 16 → E (61 + q) = .inr (2, [zz_v 0, zz_v 0, zz_v 0, zz_v 0, zz_v 0, zz_v 0, zz_v 0, zz_v 0])
theorem zs_3t {G : zz_G} {a a1 : Nat → Nat} {E E1 : Nat → va_E} (ha : ∀ j : Nat, j < 77 → a j = a1 j) (hE : ∀ j : Nat, j < 77 → E j = E1 j) (h : zs_3 G a1 E1) : zs_3 G a E := by
  unfold zs_3 at *
  rw [hE 0 (by decide), hE 1 (by decide), hE 2 (by decide), hE 3 (by decide), hE 4 (by decide), hE 5 (by decide), hE 6 (by decide), hE 7 (by decide), hE 8 (by decide), hE 9 (by decide), hE 10 (by decide), hE 11 (by decide), hE 60 (by decide), ha 1 (by decide), ha 2 (by decide), ha 3 (by decide), ha 7 (by decide), ha 11 (by decide), ha 60 (by decide), ha 4 (by decide), ha 5 (by decide), ha 6 (by decide), ha 8 (by decide), ha 9 (by decide), ha 10 (by decide)]
  obtain ⟨h0, h1, h2, h3, h4, h5, h6, h7, h8, h9, h10, ⟨f1, h11, h12⟩, h13, ⟨f2, h14, h15⟩, h16⟩ := h
  refine ⟨h0, h1, h2, h3, h4, h5, h6, h7, h8, h9, h10, ⟨f1, h11, fun q hq => ?_⟩, fun q hq => ?_, ⟨f2, h14, fun q hq => ?_⟩, fun q hq => ?_⟩
  · rw [ha _ (by omega)]; exact h12 q hq
  · rw [hE _ (by omega), hE _ (by omega), ha _ (by omega)]; exact h13 q hq
  · rw [ha _ (by omega)]; exact h15 q hq
  · rw [hE _ (by omega)]; exact h16 q hq
def zs0 : zz_S := fun k f => if 13 ≤ k ∧ k < 37 then (if f = 7 then -1 else 0) else if 37 ≤ k ∧ k < 61 then (if f < 10 then -1 else 0) else 0
def zs_v : zz_S := fun _ _ => 0
theorem zs0_act {i : Nat} (h : i < 24) : zs0 (13 + i) = fun f => if f = 7 then -1 else 0 := by
  funext f
  unfold zs0
  rw [if_pos ⟨by omega, by omega⟩]
theorem zs0_pl {i : Nat} (h : i < 24) : zs0 (37 + i) = fun f => if f < 10 then -1 else 0 := by
  funext f
  unfold zs0
  rw [if_neg (by omega), if_pos ⟨by omega, by omega⟩]
theorem zs0_z {k : Nat} (h : k < 13 ∨ 61 ≤ k) : zs0 k = fun _ => 0 := by
  funext f
  unfold zs0
  rw [if_neg (by omega), if_neg (by omega)]
theorem zs0_rg : zz_Rg zs0 := by
  intro i j
  have h : -1 ≤ zs0 i j ∧ zs0 i j ≤ 0 := by
    unfold zs0
    repeat' split
    all_goals omega
  exact ⟨by omega, by omega⟩
theorem zs_v_rg : zz_Rg zs_v := fun _ _ => zz_r0
theorem zs0_v : zi_V zs0 zs_v := ⟨rfl, rfl, rfl, rfl⟩
theorem zs0_i : zi_ zs0 0 := by
  have z : ∀ k f : Nat, (k < 13 ∨ 61 ≤ k) → zs0 k f = 0 := fun k f h => by rw [zs0_z h]
  refine ⟨⟨z 0 1 (by omega), fun j hj => by rw [z] <;> omega⟩, ⟨by rw [z] <;> omega, fun j hj => by rw [z] <;> omega⟩, by unfold zi_C; rw [z] <;> omega, ⟨by rw [z] <;> omega, fun j hj => by rw [z] <;> omega, fun j hj => ?_⟩, ⟨by rw [z] <;> omega, fun j hj => by rw [z] <;> omega⟩, ⟨by rw [z] <;> omega, fun i hi => ?_⟩, fun i p hi hp => ?_, ⟨by rw [z] <;> omega, fun c hc => ?_⟩⟩
  · rw [z 3 3 (by omega)] at hj
    omega
  · unfold zi_f
    rw [zs0_act hi, z 0 7 (by omega)]
    simp
    intro h
    omega
  · rw [zs0_pl hi, z 0 7 (by omega)]
    show (-1 ≤ (if p < 10 then (-1 : Int) else 0) ∧ (if p < 10 then (-1 : Int) else 0) ≤ 5000) ∧ (3 ≤ p → (if p < 10 then (-1 : Int) else 0) = -1) ∧ ((0 : Int) ≤ (i : Int) → (if p < 10 then (-1 : Int) else 0) = -1)
    rw [if_pos hp]
    omega
  · unfold zi_h
    rw [zs0_z (k := 61 + c) (by omega), z 0 10 (by omega), z 0 9 (by omega), z 0 7 (by omega)]
    refine ⟨by decide, by decide, by decide, by decide, by decide, by decide, by decide, by decide, fun _ => Int.le_refl 0, fun h => ?_, fun _ => rfl, fun _ => Int.le_refl 0⟩
    omega
/-- where a place was made -/
def zs_g (k : Nat) : Nat := if k < 12 then k else if k = 12 then 60 else if k < 37 then 12 + 2 * (k - 13) else if k < 61 then 13 + 2 * (k - 37) else k
theorem zs_g_act {i : Nat} (h : i < 24) : zs_g (13 + i) = 12 + 2 * i := by
  unfold zs_g
  rw [if_neg (by omega), if_neg (by omega), if_pos (by omega)]
  omega
theorem zs_g_pl {i : Nat} (h : i < 24) : zs_g (37 + i) = 13 + 2 * i := by
  unfold zs_g
  rw [if_neg (by omega), if_neg (by omega), if_neg (by omega), if_pos (by omega)]
  omega
theorem zs_g_cm {i : Nat} : zs_g (61 + i) = 61 + i := by
  unfold zs_g
  rw [if_neg (by omega), if_neg (by omega), if_neg (by omega), if_neg (by omega)]
theorem zs_g_lt {k : Nat} (h : k < 77) : zs_g k < 77 := by
  unfold zs_g
  repeat' split
  all_goals omega
theorem zs_g_in {i j : Nat} (h : zs_g i = zs_g j) : i = j := by
  unfold zs_g at h
  repeat' split at h
  all_goals omega
theorem arrV_ext (cA : ClassId) {N : Nat} {f g : Nat → Value} (h : ∀ j : Nat, j < N → f j = g j) : arrV cA N f = arrV cA N g := by
  unfold arrV
  congr 1
  apply Array.ext_getElem?
  intro i
  by_cases hi : i < N
  · simp [hi, h i hi]
  · simp [hi]
/-- the same cell -/
def zs_q (e e' : va_E) : Prop := e' = e ∨ ∃ (cA : ClassId) (N : Nat) (f g : Nat → Option Nat), e = .inl (cA, N, .inr (.inr (.inr (.inr f)))) ∧ e' = .inl (cA, N, .inr (.inr (.inr (.inr g)))) ∧ ∀ j : Nat, j < N → f j = g j
theorem zs_perm {D : va_G} {W W' : va_W} {H : Heap} {A : Nat → Prop} (g : Nat → Nat) (hg : ∀ (k : Nat) (q : Nat × va_E), W'[k]? = some q → ∃ e : va_E, W[g k]? = some (q.1, e) ∧ zs_q e q.2) (hi : ∀ i j : Nat, g i = g j → i = j) (hP : va_P D vwCl W H) (hD : va_D A W) : va_P D vwCl W' H ∧ va_D A W' := by
  refine ⟨fun k q hq => ?_, fun i j p q hp hq e => ?_, fun k q hq => ?_⟩
  · obtain ⟨x, e'⟩ := q
    obtain ⟨e, h1, h2⟩ := hg k _ hq
    have h3 := hP _ _ h1
    rcases h2 with h2 | ⟨cA, N, f, g9, e1, e2, e3⟩
    · have h2 : e' = e := h2
      rw [h2]
      exact h3
    · have e2 : e' = _ := e2
      rw [e1] at h3
      rw [e2]
      have h4 : H[x]? = some (vp_cell cA (N, .inr (.inr (.inr (.inr f))))) := h3
      show H[x]? = some (vp_cell cA (N, .inr (.inr (.inr (.inr g9)))))
      rw [h4, vp_cell_q, vp_cell_q, arrV_ext cA (fun j hj => by rw [e3 j hj])]
  · obtain ⟨e1, h1, -⟩ := hg i p hp
    obtain ⟨e2, h2, -⟩ := hg j q hq
    exact hi i j (hD.1 _ _ _ _ h1 h2 e)
  · obtain ⟨e1, h1, -⟩ := hg k q hq
    exact hD.2 _ (q.1, e1) h1
