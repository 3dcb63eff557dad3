/-! words that are typed; acts, pleas, complaints, files, remedies, days -/
def zy_lc (one two k : Nat) : Nat := (if k < 4 then one / 2 ^ (5 * k) else two / 2 ^ (5 * (k - 4))) % 32
def zy_lt (one two k : Nat) : Nat := 97 + (if 25 < zy_lc one two k then zy_lc one two k - 26 else zy_lc one two k)
theorem zy_lt_rng (one two k : Nat) : 97 ≤ zy_lt one two k ∧ zy_lt one two k ≤ 122 := by
  have h : zy_lc one two k < 32 := Nat.mod_lt _ (by decide)
  unfold zy_lt
  split <;> omega
/-- the hall when k letters are typed -/
def zy_ty (T : zz_S) (one two : Nat) : Nat → zz_S
  | 0 => T
  | k + 1 => zz_u (zz_u (zy_ty T one two k) 1 k (zy_lt one two k : Nat)) 0 1 ((k : Int) + 1)
theorem zy_ty_off (T : zz_S) (one two : Nat) {i f : Nat} (h1 : ¬ i = 1) (h2 : ¬ (i = 0 ∧ f = 1)) : ∀ k : Nat, zy_ty T one two k i f = T i f
  | 0 => rfl
  | k + 1 => by
    rw [zy_ty, zz_u_ne _ _ h2, zz_u_ne _ _ (fun z => h1 z.1)]
    exact zy_ty_off T one two h1 h2 k
theorem zy_ty_n {T : zz_S} (h : T 0 1 = 0) (one two : Nat) : ∀ k : Nat, zy_ty T one two k 0 1 = (k : Int)
  | 0 => h
  | k + 1 => by rw [zy_ty, zz_u_same]; omega
theorem zy_ty_l (T : zz_S) (one two : Nat) {j : Nat} : ∀ k : Nat, zy_ty T one two k 1 j = if j < k then ((zy_lt one two j : Nat) : Int) else T 1 j
  | 0 => by rw [if_neg (by omega)]; rfl
  | k + 1 => by
    rw [zy_ty, zz_u_ne _ _ (by omega), zz_u_at]
    by_cases q : j = k
    · rw [if_pos ⟨rfl, q⟩, if_pos (by omega), q]
    · rw [if_neg (fun z => q z.2), zy_ty_l T one two k]
      by_cases q2 : j < k
      · rw [if_pos q2, if_pos (by omega)]
      · rw [if_neg q2, if_neg (by omega)]
/-- K is T with the word of the kind k typed -/
def zi_K (T K : zz_S) (k : Int) : Prop := zz_tk (K 1) (K 0 1) = k ∧ (0 ≤ K 0 1 ∧ K 0 1 ≤ 7) ∧ zz_rr K 1 7 0 65535 ∧ ∀ i f : Nat, ¬ i = 1 → ¬ (i = 0 ∧ f = 1) → K i f = T i f
def zk_kS (T : zz_S) (k : Int) : zz_S := if k = 0 then zy_ty T 11395 24 5 else if k = 1 then zy_ty T 408111 4680 7 else if k = 2 then zy_ty T 142993 0 4 else zy_ty T 739744 548 6
theorem zy_ty_rr {T : zz_S} (h : zz_rr T 1 7 0 65535) (one two n : Nat) : zz_rr (zy_ty T one two n) 1 7 0 65535 := by
  intro j hj
  have h9 := zy_lt_rng one two j
  have h8 := h j hj
  rw [zy_ty_l]
  split <;> omega
theorem zk_typed {T : zz_S} (h : zi_A T) {k : Int} (hk : 0 ≤ k ∧ k < 4) : zi_K T (zk_kS T k) k := by
  obtain ⟨h1, h2⟩ := h
  rcases (show k = 0 ∨ k = 1 ∨ k = 2 ∨ k = 3 by omega) with rfl | rfl | rfl | rfl
  · rw [show zk_kS T 0 = zy_ty T 11395 24 5 from rfl]
    refine ⟨?_, by rw [zy_ty_n h1]; omega, zy_ty_rr h2 _ _ _, fun i f q1 q2 => zy_ty_off T _ _ q1 q2 _⟩
    have e : ∀ j : Nat, j < 5 → zy_ty T 11395 24 5 1 j = ((zy_lt 11395 24 j : Nat) : Int) := fun j hj => by rw [zy_ty_l, if_pos hj]
    unfold zz_tk zz_mty
    rw [zy_ty_n h1, e 0 (by omega), e 1 (by omega), e 2 (by omega), e 3 (by omega), e 4 (by omega)]
    rfl
  · rw [show zk_kS T 1 = zy_ty T 408111 4680 7 from rfl]
    refine ⟨?_, by rw [zy_ty_n h1]; omega, zy_ty_rr h2 _ _ _, fun i f q1 q2 => zy_ty_off T _ _ q1 q2 _⟩
    have e : ∀ j : Nat, j < 7 → zy_ty T 408111 4680 7 1 j = ((zy_lt 408111 4680 j : Nat) : Int) := fun j hj => by rw [zy_ty_l, if_pos hj]
    unfold zz_tk zz_mty
    rw [zy_ty_n h1, e 0 (by omega), e 1 (by omega), e 2 (by omega), e 3 (by omega), e 4 (by omega), e 5 (by omega), e 6 (by omega)]
    rfl
  · rw [show zk_kS T 2 = zy_ty T 142993 0 4 from rfl]
    refine ⟨?_, by rw [zy_ty_n h1]; omega, zy_ty_rr h2 _ _ _, fun i f q1 q2 => zy_ty_off T _ _ q1 q2 _⟩
    have e : ∀ j : Nat, j < 4 → zy_ty T 142993 0 4 1 j = ((zy_lt 142993 0 j : Nat) : Int) := fun j hj => by rw [zy_ty_l, if_pos hj]
    unfold zz_tk zz_mty
    rw [zy_ty_n h1, e 0 (by omega), e 1 (by omega), e 2 (by omega), e 3 (by omega)]
    rfl
  · rw [show zk_kS T 3 = zy_ty T 739744 548 6 from rfl]
    refine ⟨?_, by rw [zy_ty_n h1]; omega, zy_ty_rr h2 _ _ _, fun i f q1 q2 => zy_ty_off T _ _ q1 q2 _⟩
    have e : ∀ j : Nat, j < 6 → zy_ty T 739744 548 6 1 j = ((zy_lt 739744 548 j : Nat) : Int) := fun j hj => by rw [zy_ty_l, if_pos hj]
    unfold zz_tk zz_mty
    rw [zy_ty_n h1, e 0 (by omega), e 1 (by omega), e 2 (by omega), e 3 (by omega), e 4 (by omega), e 5 (by omega)]
    rfl
theorem zi_IC_K {T K : zz_S} {k : Int} (h : zz_IC T) (hK : zi_K T K k) : zz_IC K := by
  obtain ⟨itc, ioc, iac, icc, itd, idc, ilc, iab, idv, iow, ikd, idy, ims, ihm, ict, iwv, irm, ipl, ian, ist, idl, ipe, ifi, ias, ihe, ifn, iod, ity⟩ := h
  obtain ⟨-, k1, k2, k3⟩ := hK
  have e : ∀ i f : Nat, ¬ i = 1 → ¬ (i = 0 ∧ f = 1) → K i f = T i f := k3
  exact ⟨k1, by rw [e 0 3 (by omega) (by omega)]; exact ioc, by rw [e 0 7 (by omega) (by omega)]; exact iac, by rw [e 0 9 (by omega) (by omega)]; exact icc, by rw [e 0 10 (by omega) (by omega)]; exact itd, by rw [e 3 3 (by omega) (by omega)]; exact idc, by rw [e 7 3 (by omega) (by omega)]; exact ilc, fun j hj => by rw [e _ _ (by omega) (by omega)]; exact iab j hj, fun j hj => by rw [e _ _ (by omega) (by omega)]; exact idv j hj, fun j hj => by rw [e _ _ (by omega) (by omega)]; exact iow j hj, fun j hj => by rw [e _ _ (by omega) (by omega)]; exact ikd j hj, fun j hj => by rw [e _ _ (by omega) (by omega)]; exact idy j hj, fun j hj => by rw [e _ _ (by omega) (by omega)]; exact ims j hj, fun j hj => by rw [e _ _ (by omega) (by omega)]; exact ihm j hj, fun j hj => by rw [e _ _ (by omega) (by omega)]; exact ict j hj, fun j hj => by rw [e _ _ (by omega) (by omega)]; exact iwv j hj, fun j hj => by rw [e _ _ (by omega) (by omega)]; exact irm j hj, fun i hi j hj => by rw [e _ _ (by omega) (by omega)]; exact ipl i hi j hj, fun j hj => by rw [e _ _ (by omega) (by omega)]; exact ian j hj, fun j hj => by rw [e _ _ (by omega) (by omega)]; exact ist j hj, fun j hj => by rw [e _ _ (by omega) (by omega)]; exact idl j hj, fun j hj => by rw [e _ _ (by omega) (by omega)]; exact ipe j hj, fun j hj => by rw [e _ _ (by omega) (by omega)]; exact ifi j hj, fun j hj => by rw [e _ _ (by omega) (by omega)]; exact ias j hj, fun j hj => by rw [e _ _ (by omega) (by omega)]; exact ihe j hj, fun j hj => by rw [e _ _ (by omega) (by omega)]; exact ifn j hj, fun j hj => by rw [e _ 4 (by omega) (by omega), e _ 5 (by omega) (by omega), e 0 10 (by omega) (by omega)]; exact iod j hj, k2⟩
theorem zi_krow {T K : zz_S} {k : Int} (hK : zi_K T K k) {i : Nat} (h0 : ¬ i = 0) (h1 : ¬ i = 1) : K i = T i := funext fun f => hK.2.2.2 i f h1 (fun z => h0 z.1)
theorem zk_act {T K : zz_S} {n : Nat} {k x y w : Int} (h : zi_ T n) (hk : 0 ≤ k ∧ k < 4) (hK : zi_K T K k) (hx : 0 ≤ x ∧ x < T 0 3) (hy : 0 ≤ y ∧ y ≤ 100) (hw : 0 ≤ w ∧ w ≤ 1000) (ha : T 0 7 < 24) : zi_ (zz_aS K x y w) n ∧ (zz_aS K x y w 0 3 = T 0 3 ∧ zz_aS K x y w 0 7 = T 0 7 + 1 ∧ zz_aS K x y w 0 9 = T 0 9 ∧ zz_aS K x y w 0 10 = T 0 10) ∧ zz_aS K x y w (13 + (T 0 7).toNat) 7 = -1 ∧ zz_ba (zz_aS K x y w) (T 0 7).toNat 0 (T 0 10) = 1 := by
  have hwh := zi_own (d := T 0 10) h hx
  obtain ⟨hA, hB, hC, hD, hE, hF, hG, hH⟩ := h
  obtain ⟨k1, k2, k3, k4⟩ := hK
  have hb := hB.1
  have hf1 := hF.1
  have r : ∀ i : Nat, ¬ i = 0 → ¬ i = 1 → K i = T i := fun i h0 h1 => funext fun f => k4 i f h1 (fun z => h0 z.1)
  have e3 : K 0 3 = T 0 3 := k4 0 3 (by omega) (by omega)
  have e7 : K 0 7 = T 0 7 := k4 0 7 (by omega) (by omega)
  have e9 : K 0 9 = T 0 9 := k4 0 9 (by omega) (by omega)
  have e10 : K 0 10 = T 0 10 := k4 0 10 (by omega) (by omega)
  obtain ⟨own, hown⟩ : ∃ own : Int, own = zi_wh T (T 0 10) x := ⟨_, rfl⟩
  rw [← hown] at hwh
  have ea : zz_aS K x y w = zz_u (zz_u (zz_u (zz_u (zz_u (zz_u (zz_u K 0 1 0) (13 + (T 0 7).toNat) 0 own) (13 + (T 0 7).toNat) 1 k) (13 + (T 0 7).toNat) 2 (T 0 10)) (13 + (T 0 7).toNat) 3 y) (13 + (T 0 7).toNat) 4 w) 0 7 (T 0 7 + 1) := by
    unfold zz_aS
    rw [k1, if_neg (by omega), e7, e10, r 4 (by omega) (by omega), r 5 (by omega) (by omega), r 6 (by omega) (by omega), r 3 (by omega) (by omega), hown]
    rfl
  rw [ea]
  obtain ⟨V, hV⟩ : ∃ V : zz_S, V = zz_u (zz_u (zz_u (zz_u (zz_u (zz_u (zz_u K 0 1 0) (13 + (T 0 7).toNat) 0 own) (13 + (T 0 7).toNat) 1 k) (13 + (T 0 7).toNat) 2 (T 0 10)) (13 + (T 0 7).toNat) 3 y) (13 + (T 0 7).toNat) 4 w) 0 7 (T 0 7 + 1) := ⟨_, rfl⟩
  rw [← hV]
  have v1 : V 0 1 = 0 := by rw [hV]; simp (disch := omega) only [zz_u_off, zz_u_ne, zz_u_same]
  have v3 : V 0 3 = T 0 3 := by rw [hV]; simp (disch := omega) only [zz_u_off, zz_u_ne, zz_u_same]; exact e3
  have v7 : V 0 7 = T 0 7 + 1 := by rw [hV]; simp (disch := omega) only [zz_u_off, zz_u_ne, zz_u_same]
  have v9 : V 0 9 = T 0 9 := by rw [hV]; simp (disch := omega) only [zz_u_off, zz_u_ne, zz_u_same]; exact e9
  have v10 : V 0 10 = T 0 10 := by rw [hV]; simp (disch := omega) only [zz_u_off, zz_u_ne, zz_u_same]; exact e10
  have vr : ∀ i : Nat, ¬ i = 0 → ¬ i = 1 → ¬ i = 13 + (T 0 7).toNat → V i = T i := fun i h0 h1 h2 => by
    rw [hV]
    simp (disch := omega) only [zz_u_off]
    exact r i h0 h1
  have vr1 : V 1 = K 1 := by rw [hV]; simp (disch := omega) only [zz_u_off, zz_u_ne, zz_u_same]
  have va0 : V (13 + (T 0 7).toNat) 0 = own := by rw [hV]; simp (disch := omega) only [zz_u_off, zz_u_ne, zz_u_same]
  have va1 : V (13 + (T 0 7).toNat) 1 = k := by rw [hV]; simp (disch := omega) only [zz_u_off, zz_u_ne, zz_u_same]
  have va2 : V (13 + (T 0 7).toNat) 2 = T 0 10 := by rw [hV]; simp (disch := omega) only [zz_u_off, zz_u_ne, zz_u_same]
  have va3 : V (13 + (T 0 7).toNat) 3 = y := by rw [hV]; simp (disch := omega) only [zz_u_off, zz_u_ne, zz_u_same]
  have va4 : V (13 + (T 0 7).toNat) 4 = w := by rw [hV]; simp (disch := omega) only [zz_u_off, zz_u_ne, zz_u_same]
  have vaf : ∀ f : Nat, 4 < f → V (13 + (T 0 7).toNat) f = T (13 + (T 0 7).toNat) f := fun f hf => by
    rw [hV]
    simp (disch := omega) only [zz_u_off, zz_u_ne]
    rw [r _ (by omega) (by omega)]
  obtain ⟨g1, g2, g3, g4, g5, g6, g7, g8, g9, g10⟩ := hF.2 (T 0 7).toNat (by omega)
  have v37 := fun i (hi : i < 24) => vr (37 + i) (by omega) (by omega) (by omega)
  have hG0 := hG (T 0 7).toNat 0 (by omega) (by omega)
  have hp : T (37 + (T 0 7).toNat) 0 = -1 := hG0.2.2 (by omega)
  refine ⟨⟨?_, ?_, ?_, ?_, ?_, ?_, ?_, ?_⟩, ⟨v3, v7, v9, v10⟩, ?_, ?_⟩
  · exact ⟨v1, fun j hj => by rw [vr1]; exact k3 j hj⟩
  · exact zi_B_tr v3 (vr 2 (by omega) (by omega) (by omega)) hB
  · exact zi_C_tr v10 hC
  · exact zi_D_tr (Nat.le_refl _) (by rw [vr 3 (by omega) (by omega) (by omega)]) (vr 4 (by omega) (by omega) (by omega)) (vr 5 (by omega) (by omega) (by omega)) (vr 6 (by omega) (by omega) (by omega)) (by omega) (by omega) hD
  · exact zi_E_tr (Nat.le_refl _) (by rw [vr 7 (by omega) (by omega) (by omega)]) (vr 10 (by omega) (by omega) (by omega)) hE
  · refine ⟨by omega, fun i hi => ?_⟩
    by_cases q : i = (T 0 7).toNat
    · rw [q]
      unfold zi_f
      rw [va0, va1, va2, va3, va4, vaf 5 (by omega), vaf 6 (by omega), vaf 7 (by omega), v3, v7]
      refine ⟨by omega, by omega, hC, hy, hw, g6, g7, g8, fun _ => by omega, fun z => by omega⟩
    · obtain ⟨f1, f2, f3, f4, f5, f6, f7, f8, f9, f10⟩ := hF.2 i hi
      unfold zi_f
      rw [vr (13 + i) (by omega) (by omega) (by omega), v3, v7]
      exact ⟨f1, f2, f3, f4, f5, f6, f7, f8, fun z => f9 (by omega), fun z => f10 (by omega)⟩
  · intro i p hi hp2
    obtain ⟨f1, f2, f3⟩ := hG i p hi hp2
    rw [v37 i hi, v7]
    exact ⟨f1, f2, fun z => f3 (by omega)⟩
  · exact zi_H_tr v9 (fun c hc => vr (61 + c) (by omega) (by omega) (by omega)) (by omega) (by omega) hH
  · rw [vaf 7 (by omega)]
    exact g10 (by omega)
  · unfold zz_ba
    rw [v37 _ (by omega), if_pos (Or.inl hp)]
theorem zk_cw {T : zz_S} {n i f : Nat} {y : Int} (h : zi_ T n) (hi : (i : Int) < T 0 7) (hf : f = 5 ∨ f = 6) (hy : 0 ≤ y ∧ y ≤ 1) : zi_ (zz_u T (13 + i) f y) n ∧ (0 ≤ T (13 + i) f ∧ T (13 + i) f ≤ 1) ∧ zz_ba (zz_u T (13 + i) f y) i 9 (T 0 10) = 1 := by
  obtain ⟨hA, hB, hC, hD, hE, hF, hG, hH⟩ := h
  have hf1 := hF.1
  obtain ⟨g1, g2, g3, g4, g5, g6, g7, g8, g9, g10⟩ := hF.2 i (by omega)
  have hp : T (37 + i) 9 = -1 := (hG i 9 (by omega) (by omega)).2.1 (by omega)
  refine ⟨⟨?_, ?_, ?_, ?_, ?_, ?_, ?_, ?_⟩, by rcases hf with rfl | rfl <;> assumption, ?_⟩
  · exact zi_A_tr (by simp (disch := omega) only [zz_u_off, zz_u_ne, zz_u_same]) (by simp (disch := omega) only [zz_u_off, zz_u_ne, zz_u_same]) hA
  · exact zi_B_tr (by simp (disch := omega) only [zz_u_off, zz_u_ne, zz_u_same]) (by simp (disch := omega) only [zz_u_off, zz_u_ne, zz_u_same]) hB
  · exact zi_C_tr (by simp (disch := omega) only [zz_u_off, zz_u_ne, zz_u_same]) hC
  · exact zi_D_tr (Nat.le_refl _) (by simp (disch := omega) only [zz_u_off, zz_u_ne, zz_u_same]) (by simp (disch := omega) only [zz_u_off, zz_u_ne, zz_u_same]) (by simp (disch := omega) only [zz_u_off, zz_u_ne, zz_u_same]) (by simp (disch := omega) only [zz_u_off, zz_u_ne, zz_u_same]) (by first | (simp (disch := omega) only [zz_u_off, zz_u_ne, zz_u_same]; omega) | (simp (disch := omega) only [zz_u_off, zz_u_ne, zz_u_same]; exact Int.le_refl _) | (simp (disch := omega) only [zz_u_off, zz_u_ne, zz_u_same, Int.le_refl])) (by first | (simp (disch := omega) only [zz_u_off, zz_u_ne, zz_u_same]; omega) | (simp (disch := omega) only [zz_u_off, zz_u_ne, zz_u_same]; exact Int.le_refl _) | (simp (disch := omega) only [zz_u_off, zz_u_ne, zz_u_same, Int.le_refl])) hD
  · exact zi_E_tr (Nat.le_refl _) (by simp (disch := omega) only [zz_u_off, zz_u_ne, zz_u_same]) (by simp (disch := omega) only [zz_u_off, zz_u_ne, zz_u_same]) hE
  · refine ⟨by simp (disch := omega) only [zz_u_off, zz_u_ne, zz_u_same]; exact hf1, fun q hq => ?_⟩
    unfold zi_f
    by_cases e : q = i
    · rw [e]
      rcases hf with rfl | rfl
      · simp (disch := omega) only [zz_u_ne, zz_u_same]
        exact ⟨g1, g2, g3, g4, g5, hy, g7, g8, g9, g10⟩
      · simp (disch := omega) only [zz_u_ne, zz_u_same]
        exact ⟨g1, g2, g3, g4, g5, g6, hy, g8, g9, g10⟩
    · have h9 := hF.2 q hq
      unfold zi_f at h9
      simp (disch := omega) only [zz_u_off, zz_u_ne]
      exact h9
  · exact zi_G_tr (by simp (disch := omega) only [zz_u_off, zz_u_ne, zz_u_same]) (fun i hi => (by simp (disch := omega) only [zz_u_off, zz_u_ne, zz_u_same])) hG
  · exact zi_H_tr (by simp (disch := omega) only [zz_u_off, zz_u_ne, zz_u_same]) (fun c hc => (by simp (disch := omega) only [zz_u_off, zz_u_ne, zz_u_same])) (by first | (simp (disch := omega) only [zz_u_off, zz_u_ne, zz_u_same]; omega) | (simp (disch := omega) only [zz_u_off, zz_u_ne, zz_u_same]; exact Int.le_refl _) | (simp (disch := omega) only [zz_u_off, zz_u_ne, zz_u_same, Int.le_refl])) (by first | (simp (disch := omega) only [zz_u_off, zz_u_ne, zz_u_same]; omega) | (simp (disch := omega) only [zz_u_off, zz_u_ne, zz_u_same]; exact Int.le_refl _) | (simp (disch := omega) only [zz_u_off, zz_u_ne, zz_u_same, Int.le_refl])) hH
  · unfold zz_ba
    rw [zz_u_ne _ _ (by omega), if_pos (Or.inl hp)]
theorem zk_plea {T : zz_S} {n i x : Nat} (h : zi_ T n) (hi : (i : Int) < T 0 7) (hx : x < 3) : zi_ (zz_u T (37 + i) x (T 0 10)) n ∧ zz_ba (zz_u T (37 + i) x (T 0 10)) i x (T 0 10) = 1 ∧ ¬ zz_u T (37 + i) x (T 0 10) (37 + i) x = -1 := by
  obtain ⟨hA, hB, hC, hD, hE, hF, hG, hH⟩ := h
  have hf1 := hF.1
  have hc1 := hC
  unfold zi_C at hc1
  refine ⟨⟨?_, ?_, ?_, ?_, ?_, ?_, ?_, ?_⟩, ?_, ?_⟩
  · exact zi_A_tr (by simp (disch := omega) only [zz_u_off, zz_u_ne, zz_u_same]) (by simp (disch := omega) only [zz_u_off, zz_u_ne, zz_u_same]) hA
  · exact zi_B_tr (by simp (disch := omega) only [zz_u_off, zz_u_ne, zz_u_same]) (by simp (disch := omega) only [zz_u_off, zz_u_ne, zz_u_same]) hB
  · exact zi_C_tr (by simp (disch := omega) only [zz_u_off, zz_u_ne, zz_u_same]) hC
  · exact zi_D_tr (Nat.le_refl _) (by simp (disch := omega) only [zz_u_off, zz_u_ne, zz_u_same]) (by simp (disch := omega) only [zz_u_off, zz_u_ne, zz_u_same]) (by simp (disch := omega) only [zz_u_off, zz_u_ne, zz_u_same]) (by simp (disch := omega) only [zz_u_off, zz_u_ne, zz_u_same]) (by first | (simp (disch := omega) only [zz_u_off, zz_u_ne, zz_u_same]; omega) | (simp (disch := omega) only [zz_u_off, zz_u_ne, zz_u_same]; exact Int.le_refl _) | (simp (disch := omega) only [zz_u_off, zz_u_ne, zz_u_same, Int.le_refl])) (by first | (simp (disch := omega) only [zz_u_off, zz_u_ne, zz_u_same]; omega) | (simp (disch := omega) only [zz_u_off, zz_u_ne, zz_u_same]; exact Int.le_refl _) | (simp (disch := omega) only [zz_u_off, zz_u_ne, zz_u_same, Int.le_refl])) hD
  · exact zi_E_tr (Nat.le_refl _) (by simp (disch := omega) only [zz_u_off, zz_u_ne, zz_u_same]) (by simp (disch := omega) only [zz_u_off, zz_u_ne, zz_u_same]) hE
  · exact zi_F_tr (by simp (disch := omega) only [zz_u_off, zz_u_ne, zz_u_same]) (fun i hi => (by simp (disch := omega) only [zz_u_off, zz_u_ne, zz_u_same])) (by first | (simp (disch := omega) only [zz_u_off, zz_u_ne, zz_u_same]; omega) | (simp (disch := omega) only [zz_u_off, zz_u_ne, zz_u_same]; exact Int.le_refl _) | (simp (disch := omega) only [zz_u_off, zz_u_ne, zz_u_same, Int.le_refl])) hF
  · intro q p hq hp
    obtain ⟨f1, f2, f3⟩ := hG q p hq hp
    rw [zz_u_ne (k := 37 + i) (i := 0) (j := 7) _ _ (by omega), zz_u_at]
    by_cases e : 37 + q = 37 + i ∧ p = x
    · rw [if_pos e]
      exact ⟨by omega, fun z => by omega, fun z => by omega⟩
    · rw [if_neg e]
      exact ⟨f1, f2, f3⟩
  · exact zi_H_tr (by simp (disch := omega) only [zz_u_off, zz_u_ne, zz_u_same]) (fun c hc => (by simp (disch := omega) only [zz_u_off, zz_u_ne, zz_u_same])) (by first | (simp (disch := omega) only [zz_u_off, zz_u_ne, zz_u_same]; omega) | (simp (disch := omega) only [zz_u_off, zz_u_ne, zz_u_same]; exact Int.le_refl _) | (simp (disch := omega) only [zz_u_off, zz_u_ne, zz_u_same, Int.le_refl])) (by first | (simp (disch := omega) only [zz_u_off, zz_u_ne, zz_u_same]; omega) | (simp (disch := omega) only [zz_u_off, zz_u_ne, zz_u_same]; exact Int.le_refl _) | (simp (disch := omega) only [zz_u_off, zz_u_ne, zz_u_same, Int.le_refl])) hH
  · unfold zz_ba
    rw [zz_u_same, if_pos (Or.inr (by omega))]
  · rw [zz_u_same]; omega
