/-! remedies, days, complaints -/
theorem zi_rn_b (S : zz_S) (c : Nat) (h0 : 0 ≤ S (61 + c) 0) : ∀ i : Nat, (if S (61 + c) 0 < (i : Int) then 1 else 0) ≤ zz_rn S c i ∧ zz_rn S c i ≤ (if S (61 + c) 0 < (i : Int) then 1 else 0) + zz_ln S (S (61 + c) 0).toNat i
  | 0 => by
    rw [zz_rn, zz_ln, if_neg (by omega)]
    omega
  | i + 1 => by
    have h := zi_rn_b S c h0 i
    have h1 := zz_li_01 S (S (61 + c) 0).toNat i
    have hl : (i : Int) = S (61 + c) 0 → zz_li S (S (61 + c) 0).toNat i = 0 := fun e => by
      unfold zz_li
      rw [if_neg (fun z => z.1 (by omega))]
    have hr : zz_rb S c i = if (i : Int) = S (61 + c) 0 then 1 else if zz_li S (S (61 + c) 0).toNat i = 0 then 0 else if zz_ft S i = 0 then 0 else 1 := rfl
    rw [zz_rn, zz_ln]
    by_cases q : (i : Int) = S (61 + c) 0
    · rw [if_pos q] at hr
      have h2 := hl q
      rw [if_neg (by omega)] at h
      rw [if_pos (by omega)]
      omega
    · rw [if_neg q] at hr
      have hrb : 0 ≤ zz_rb S c i ∧ zz_rb S c i ≤ zz_li S (S (61 + c) 0).toNat i := by
        rw [hr]
        by_cases q1 : zz_li S (S (61 + c) 0).toNat i = 0
        · rw [if_pos q1]; omega
        · rw [if_neg q1]
          by_cases q2 : zz_ft S i = 0
          · rw [if_pos q2]; omega
          · rw [if_neg q2]; omega
      by_cases q3 : S (61 + c) 0 < (i : Int)
      · rw [if_pos q3] at h
        rw [if_pos (by omega)]
        omega
      · rw [if_neg q3] at h
        rw [if_neg (by omega)]
        omega
/-- the remedies, act by act -/
theorem zi_rS_7 (S : zz_S) (c : Nat) (x : Int) (q : Nat) : ∀ i : Nat, zz_rS S c x i (13 + q) 7 = if q < i ∧ ¬ zz_rb S c q = 0 then (S (13 + q) 4 * x) / 100 else S (13 + q) 7
  | 0 => by rw [if_neg (by omega)]; rfl
  | i + 1 => by
    have h := zi_rS_7 S c x q i
    rw [zz_rS]
    by_cases e : zz_rb S c i = 0
    · rw [if_pos e, h]
      by_cases e2 : q < i ∧ ¬ zz_rb S c q = 0
      · rw [if_pos e2, if_pos ⟨by omega, e2.2⟩]
      · rw [if_neg e2, if_neg (fun z => by
          by_cases e3 : q = i
          · rw [e3] at z; exact z.2 e
          · exact e2 ⟨by omega, z.2⟩)]
    · rw [if_neg e, zz_u_at]
      by_cases e3 : q = i
      · rw [if_pos ⟨by omega, rfl⟩, if_pos ⟨by omega, by rw [e3]; exact e⟩, e3]
      · rw [if_neg (by omega), h]
        by_cases e2 : q < i ∧ ¬ zz_rb S c q = 0
        · rw [if_pos e2, if_pos ⟨by omega, e2.2⟩]
        · rw [if_neg e2, if_neg (fun z => e2 ⟨by omega, z.2⟩)]
theorem zk_remedy {T : zz_S} {n k : Nat} {x : Int} (h : zi_ T n) (hk : (k : Int) < T 0 9) (hx : 0 ≤ x ∧ x ≤ 100) : zi_ (zz_rS T k x (T 0 7).toNat) n ∧ zz_rS T k x (T 0 7).toNat 0 = T 0 ∧ zz_rS T k x (T 0 7).toNat (61 + k) = T (61 + k) ∧ (1 ≤ zz_rn T k (T 0 7).toNat ∧ zz_rn T k (T 0 7).toNat ≤ 1 + zz_ln (zz_rS T k x (T 0 7).toNat) (T (61 + k) 0).toNat (T 0 7).toNat) ∧ (0 ≤ zz_rS T k x (T 0 7).toNat (13 + (T (61 + k) 0).toNat) 7 ∧ zz_rS T k x (T 0 7).toNat (13 + (T (61 + k) 0).toNat) 7 ≤ 10 * x) := by
  obtain ⟨hA, hB, hC, hD, hE, hF, hG, hH⟩ := h
  obtain ⟨g1, g2, g3, g4, g5, g6, g7, g8, g9, g10, g11, g12⟩ := hH.2 k (by have h9 := hH.1; omega)
  have hf1 := hF.1
  have hh1 := hH.1
  have g10' := g10 hk
  have hsr := zz_rS_sr T k x (T 0 7).toNat (by omega)
  have h7 := zi_rS_7 T k x
  have hm : ∀ q : Nat, q < 24 → 0 ≤ (T (13 + q) 4 * x) / 100 ∧ (T (13 + q) 4 * x) / 100 ≤ 10 * x := fun q hq => by
    obtain ⟨f1, f2, f3, f4, f5, f6⟩ := hF.2 q hq
    have a1 := Int.mul_nonneg f5.1 hx.1
    have a2 : T (13 + q) 4 * x ≤ 1000 * x := Int.mul_le_mul_of_nonneg_right f5.2 hx.1
    omega
  have hb := zi_rn_b T k g1.1 (T 0 7).toNat
  rw [if_pos (by omega)] at hb
  have hln := zz_ln_sr hsr (T (61 + k) 0).toNat (T 0 7).toNat
  have hact := h7 (T (61 + k) 0).toNat (T 0 7).toNat
  rw [if_pos ⟨by omega, by
    unfold zz_rb
    rw [if_pos (by omega)]
    decide⟩] at hact
  have hma := hm (T (61 + k) 0).toNat (by omega)
  obtain ⟨V, hV⟩ : ∃ V : zz_S, V = zz_rS T k x (T 0 7).toNat := ⟨_, rfl⟩
  rw [← hV] at hsr hln hact ⊢
  have hr : ∀ i : Nat, ¬ (13 ≤ i ∧ i < 37) → V i = T i := fun i hi => funext fun f => hsr i f (fun z => hi ⟨z.1, z.2.1⟩)
  refine ⟨⟨?_, ?_, ?_, ?_, ?_, ?_, ?_, ?_⟩, hr 0 (by omega), hr _ (by omega), ⟨hb.1, by rw [hln]; exact hb.2⟩, by rw [hact]; exact hma⟩
  · exact zi_A_tr (by rw [hr 0 (by omega)]) (hr 1 (by omega)) hA
  · exact zi_B_tr (by rw [hr 0 (by omega)]) (hr 2 (by omega)) hB
  · exact zi_C_tr (by rw [hr 0 (by omega)]) hC
  · exact zi_D_tr (Nat.le_refl _) (by rw [hr 3 (by omega)]) (hr 4 (by omega)) (hr 5 (by omega)) (hr 6 (by omega)) (by rw [hr 0 (by omega)]; exact Int.le_refl _) (by rw [hr 0 (by omega)]; exact Int.le_refl _) hD
  · exact zi_E_tr (Nat.le_refl _) (by rw [hr 7 (by omega)]) (hr 10 (by omega)) hE
  · refine ⟨by rw [hr 0 (by omega)]; exact hf1, fun q hq => ?_⟩
    obtain ⟨f1, f2, f3, f4, f5, f6, f7, f8, f9, f10⟩ := hF.2 q hq
    have hm9 := hm q hq
    have h79 := h7 q (T 0 7).toNat
    rw [← hV] at h79
    unfold zi_f
    rw [hr 0 (by omega), hsr _ 0 (by omega), hsr _ 1 (by omega), hsr _ 2 (by omega), hsr _ 3 (by omega), hsr _ 4 (by omega), hsr _ 5 (by omega), hsr _ 6 (by omega), h79]
    refine ⟨f1, f2, f3, f4, f5, f6, f7, ?_, f9, fun z => ?_⟩
    · by_cases e : q < (T 0 7).toNat ∧ ¬ zz_rb T k q = 0
      · rw [if_pos e]; omega
      · rw [if_neg e]; exact f8
    · rw [if_neg (by omega)]
      exact f10 z
  · exact zi_G_tr (by rw [hr 0 (by omega)]) (fun i hi => hr _ (by omega)) hG
  · exact zi_H_tr (by rw [hr 0 (by omega)]) (fun c hc => hr _ (by omega)) (by rw [hr 0 (by omega)]; exact Int.le_refl _) (by rw [hr 0 (by omega)]; exact Int.le_refl _) hH
/-- days go by: complaint by complaint -/
theorem zi_ld_row {S T : zz_S} {j : Nat} (x : Int) (h : T (61 + j) = S (61 + j)) (f : Nat) : zz_ld T j x (61 + j) f = zz_ld S j x (61 + j) f := by
  unfold zz_ld
  rw [h]
  by_cases q : ¬ S (61 + j) 1 = 0 ∨ S (61 + j) 4 = 1
  · rw [if_pos q, if_pos q, h]
  · rw [if_neg q, if_neg q]
    generalize (if 0 < S (61 + j) 2 - x then S (61 + j) 2 - x else 0) = d
    by_cases q2 : d = 0
    · rw [if_pos q2, if_pos q2, zz_u_at, zz_u_at, zz_u_at, zz_u_at, h]
    · rw [if_neg q2, if_neg q2, zz_u_at, zz_u_at, h]
theorem zi_pS_row (S : zz_S) (x : Int) {c : Nat} (f : Nat) : ∀ n : Nat, c < n → zz_pS S x n (61 + c) f = zz_ld S c x (61 + c) f
  | 0, h => by omega
  | n + 1, h => by
    rw [zz_pS]
    by_cases e : c = n
    · rw [e]
      exact zi_ld_row x (funext fun g => zz_pS_off S x n (61 + n) g (by omega)) f
    · rw [zz_ld_off (by omega)]
      exact zi_pS_row S x f n (by omega)
theorem zi_ld_f {S : zz_S} {c : Nat} (x : Int) {f : Nat} (h1 : ¬ f = 1) (h2 : ¬ f = 2) : zz_ld S c x (61 + c) f = S (61 + c) f := by
  unfold zz_ld
  by_cases q : ¬ S (61 + c) 1 = 0 ∨ S (61 + c) 4 = 1
  · rw [if_pos q]
  · rw [if_neg q]
    generalize (if 0 < S (61 + c) 2 - x then S (61 + c) 2 - x else 0) = d
    by_cases q2 : d = 0
    · rw [if_pos q2, zz_u_ne _ _ (by omega), zz_u_ne _ _ (by omega)]
    · rw [if_neg q2, zz_u_ne _ _ (by omega)]
/-- what the law asks of a complaint's clock -/
def zk_due (T : zz_S) (x : Int) (c : Nat) : Int := if T (61 + c) 1 + 10 * (if T (61 + c) 4 = 1 then 1 else 0) = 0 then (if T (61 + c) 2 < x then 0 else T (61 + c) 2 - x) else T (61 + c) 2
def zk_sta (T : zz_S) (x : Int) (c : Nat) : Int := if T (61 + c) 1 + 10 * (if T (61 + c) 4 = 1 then 1 else 0) = 0 ∧ zk_due T x c = 0 then 2 else (T (61 + c) 1 + 10 * (if T (61 + c) 4 = 1 then 1 else 0)) % 10
theorem zi_ld_12 {S : zz_S} {c : Nat} {x : Int} (hx : 1 ≤ x) (h1 : 0 ≤ S (61 + c) 1 ∧ S (61 + c) 1 ≤ 2) : zz_ld S c x (61 + c) 2 = zk_due S x c ∧ zz_ld S c x (61 + c) 1 = zk_sta S x c := by
  unfold zz_ld zk_sta zk_due
  by_cases q : ¬ S (61 + c) 1 = 0 ∨ S (61 + c) 4 = 1
  · rw [if_pos q]
    by_cases e : S (61 + c) 4 = 1
    · rw [if_pos e, if_neg (by omega), if_neg (by omega)]
      omega
    · rw [if_neg e, if_neg (by omega), if_neg (by omega)]
      omega
  · rw [if_neg q]
    have e : ¬ S (61 + c) 4 = 1 := fun z => q (Or.inr z)
    have e1 : S (61 + c) 1 = 0 := by omega
    rw [if_neg e, e1, if_pos (show (0 : Int) + 10 * 0 = 0 by decide)]
    have hd : (if 0 < S (61 + c) 2 - x then S (61 + c) 2 - x else 0) = (if S (61 + c) 2 < x then 0 else S (61 + c) 2 - x) := by
      by_cases q3 : S (61 + c) 2 < x
      · rw [if_neg (by omega), if_pos q3]
      · rw [if_neg q3]
        by_cases q4 : 0 < S (61 + c) 2 - x
        · rw [if_pos q4]
        · rw [if_neg q4]; omega
    rw [hd]
    generalize (if S (61 + c) 2 < x then 0 else S (61 + c) 2 - x) = d
    by_cases q2 : d = 0
    · rw [if_pos q2, if_pos ⟨by decide, q2⟩, zz_u_ne _ _ (by omega), zz_u_same, zz_u_same]
      exact ⟨rfl, rfl⟩
    · rw [if_neg q2, if_neg (fun z => q2 z.2), zz_u_same, zz_u_ne _ _ (by omega), e1]
      exact ⟨rfl, rfl⟩
def zk_x (T : zz_S) (c : Nat) : Int := T (61 + c) 1 + 10 * (if T (61 + c) 4 = 1 then 1 else 0)
theorem zk_due_x (T : zz_S) (x : Int) (c : Nat) : zk_due T x c = if zk_x T c = 0 then (if T (61 + c) 2 < x then 0 else T (61 + c) 2 - x) else T (61 + c) 2 := rfl
theorem zk_sta_x (T : zz_S) (x : Int) (c : Nat) : zk_sta T x c = if zk_x T c = 0 ∧ zk_due T x c = 0 then 2 else zk_x T c % 10 := rfl
def zk_pS (T : zz_S) (x : Int) : zz_S := zz_pS (zz_u T 0 10 (T 0 10 + x)) x (T 0 9).toNat
theorem zk_pass {T : zz_S} {n : Nat} {x : Int} (h : zi_ T n) (hx : 1 ≤ x) (hd : T 0 10 + x ≤ 5000) : zi_ (zk_pS T x) n ∧ (zk_pS T x 0 3 = T 0 3 ∧ zk_pS T x 0 7 = T 0 7 ∧ zk_pS T x 0 9 = T 0 9 ∧ zk_pS T x 0 10 = T 0 10 + x) ∧ ∀ c : Nat, (c : Int) < T 0 9 → zk_pS T x (61 + c) 2 = zk_due T x c ∧ zk_pS T x (61 + c) 1 = zk_sta T x c := by
  obtain ⟨hA, hB, hC, hD, hE, hF, hG, hH⟩ := h
  have hc1 := hC
  unfold zi_C at hc1
  have hh1 := hH.1
  have off : ∀ k f : Nat, (k < 61 ∨ 61 + (T 0 9).toNat ≤ k) → zk_pS T x k f = zz_u T 0 10 (T 0 10 + x) k f := fun k f hk => zz_pS_off _ x _ k f hk
  have offr : ∀ k : Nat, ¬ k = 0 → (k < 61 ∨ 61 + (T 0 9).toNat ≤ k) → zk_pS T x k = T k := fun k h0 hk => funext fun f => by rw [off k f hk, zz_u_ne _ _ (by omega)]
  have e3 : zk_pS T x 0 3 = T 0 3 := by rw [off 0 3 (by omega), zz_u_ne _ _ (by omega)]
  have e1 : zk_pS T x 0 1 = T 0 1 := by rw [off 0 1 (by omega), zz_u_ne _ _ (by omega)]
  have e7 : zk_pS T x 0 7 = T 0 7 := by rw [off 0 7 (by omega), zz_u_ne _ _ (by omega)]
  have e9 : zk_pS T x 0 9 = T 0 9 := by rw [off 0 9 (by omega), zz_u_ne _ _ (by omega)]
  have e10 : zk_pS T x 0 10 = T 0 10 + x := by rw [off 0 10 (by omega), zz_u_same]
  have row : ∀ c f : Nat, (c : Int) < T 0 9 → zk_pS T x (61 + c) f = zz_ld T c x (61 + c) f := fun c f hc => by
    unfold zk_pS
    rw [zi_pS_row _ x f _ (by omega)]
    exact zi_ld_row x (by rw [zz_u_off _ _ (by omega)]) f
  have r12 : ∀ c : Nat, (c : Int) < T 0 9 → zk_pS T x (61 + c) 2 = zk_due T x c ∧ zk_pS T x (61 + c) 1 = zk_sta T x c := fun c hc => by
    rw [row c 2 hc, row c 1 hc]
    exact zi_ld_12 hx (hH.2 c (by omega)).2.1
  refine ⟨⟨?_, ?_, ?_, ?_, ?_, ?_, ?_, ?_⟩, ⟨e3, e7, e9, e10⟩, r12⟩
  · exact zi_A_tr e1 (offr 1 (by omega) (by omega)) hA
  · exact zi_B_tr e3 (offr 2 (by omega) (by omega)) hB
  · unfold zi_C; omega
  · exact zi_D_tr (Nat.le_refl _) (by rw [offr 3 (by omega) (by omega)]) (offr 4 (by omega) (by omega)) (offr 5 (by omega) (by omega)) (offr 6 (by omega) (by omega)) (by omega) (by omega) hD
  · exact zi_E_tr (Nat.le_refl _) (by rw [offr 7 (by omega) (by omega)]) (offr 10 (by omega) (by omega)) hE
  · exact zi_F_tr e7 (fun i hi => offr _ (by omega) (by omega)) (by omega) hF
  · exact zi_G_tr e7 (fun i hi => offr _ (by omega) (by omega)) hG
  · refine ⟨by rw [e9]; exact hh1, fun c hc => ?_⟩
    obtain ⟨g1, g2, g3, g4, g5, g6, g7, g8, g9, g10, g11, g12⟩ := hH.2 c hc
    by_cases q : (c : Int) < T 0 9
    · obtain ⟨q2, q1⟩ := r12 c q
      have w2 : 0 ≤ zk_due T x c ∧ zk_due T x c ≤ 60 := by
        unfold zk_due
        repeat' split
        all_goals omega
      have w1 : (0 ≤ zk_sta T x c ∧ zk_sta T x c ≤ 2) ∧ (zk_sta T x c = 1 → T (61 + c) 1 = 1) := by
        unfold zk_sta
        generalize zk_due T x c = dd
        by_cases q5 : T (61 + c) 4 = 1
        · rw [if_pos q5, if_neg (by omega)]; omega
        · rw [if_neg q5]
          by_cases q6 : T (61 + c) 1 + 10 * 0 = 0 ∧ dd = 0
          · rw [if_pos q6]; omega
          · rw [if_neg q6]; omega
      unfold zi_h
      rw [q1, q2, e7, e9, e10, row c 0 q, row c 3 q, row c 4 q, row c 5 q, row c 6 q, row c 7 q, zi_ld_f x (by omega) (by omega), zi_ld_f x (by omega) (by omega), zi_ld_f x (by omega) (by omega), zi_ld_f x (by omega) (by omega), zi_ld_f x (by omega) (by omega), zi_ld_f x (by omega) (by omega)]
      exact ⟨g1, w1.1, w2, g4, g5, g6, g7, g8, fun z => by have h9 := g9 z; omega, g10, g11, fun z => g12 (w1.2 z)⟩
    · unfold zi_h
      rw [offr (61 + c) (by omega) (by omega), e7, e9, e10]
      exact ⟨g1, g2, g3, g4, g5, g6, g7, g8, fun z => by have h9 := g9 z; omega, g10, g11, g12⟩
/-! complaints -/
theorem zi_cj1 {S : zz_S} {x : Int} : ∀ (n j : Nat), (zz_cj S x n j = -1 ∧ ∀ q : Nat, j ≤ q → q < j + n → ¬ (S (61 + q) 0 = x ∧ ¬ S (61 + q) 1 = 2)) ∨ ∃ q : Nat, j ≤ q ∧ q < j + n ∧ (S (61 + q) 0 = x ∧ ¬ S (61 + q) 1 = 2) ∧ zz_cj S x n j = (q : Int)
  | 0, j => Or.inl ⟨rfl, fun q h1 h2 => by omega⟩
  | n + 1, j => by
    rw [zz_cj]
    by_cases h : S (61 + j) 0 = x ∧ ¬ S (61 + j) 1 = 2
    · rw [if_pos h]
      exact Or.inr ⟨j, Nat.le_refl j, by omega, h, rfl⟩
    · rw [if_neg h]
      rcases zi_cj1 (S := S) (x := x) n (j + 1) with ⟨h1, h2⟩ | ⟨q, h1, h2, h3, h4⟩
      · refine Or.inl ⟨h1, fun q g1 g2 => ?_⟩
        by_cases e : q = j
        · rw [e]; exact h
        · exact h2 q (by omega) (by omega)
      · exact Or.inr ⟨q, by omega, by omega, h3, h4⟩
theorem zi_cj_ext {S T : zz_S} {x : Int} (h : ∀ q : Nat, q < 16 → T (61 + q) 0 = S (61 + q) 0 ∧ T (61 + q) 1 = S (61 + q) 1) : ∀ (n j : Nat), n + j ≤ 16 → zz_cj T x n j = zz_cj S x n j
  | 0, j, _ => rfl
  | n + 1, j, hj => by
    obtain ⟨h1, h2⟩ := h j (by omega)
    rw [zz_cj, zz_cj, h1, h2, zi_cj_ext h n (j + 1) (by omega)]
theorem zi_or (a x : Nat) (ha : a < 8) (hx : x < 3) : 1 ≤ a ||| 2 ^ x ∧ a ||| 2 ^ x ≤ 7 := by
  have key : ∀ a : Nat, a < 8 → ∀ x : Nat, x < 3 → 1 ≤ a ||| 2 ^ x ∧ a ||| 2 ^ x ≤ 7 := by decide
  exact key a ha x hx
theorem zi_on (a : Nat) (ha : 1 ≤ a ∧ a ≤ 7) : 1 ≤ zz_on a 10 ∧ zz_on a 10 ≤ 3 := by
  have key : ∀ a : Nat, a < 8 → 1 ≤ a → 1 ≤ zz_on a 10 ∧ zz_on a 10 ≤ 3 := by decide +kernel
  exact key a (by omega) ha.1
theorem zi_on2 (x : Nat) (hx : x < 3) : zz_on (0 ||| 2 ^ x) 10 = 1 := by
  have key : ∀ x : Nat, x < 3 → zz_on (0 ||| 2 ^ x) 10 = 1 := by decide +kernel
  exact key x hx
/-- the number of the complaint that somebody joins or begins -/
def zk_cn (T : zz_S) (y : Int) : Int := if zz_cj T y (T 0 9).toNat 0 = -1 then T 0 9 else zz_cj T y (T 0 9).toNat 0
theorem zk_join {T : zz_S} {n k : Nat} {x : Int} (h : zi_ T n) (hk : (k : Int) < T 0 9) (hx : 0 ≤ x ∧ x < 3) : zi_ (zz_jn T k x) n ∧ (∀ i f : Nat, ¬ (i = 61 + k ∧ f = 3) → zz_jn T k x i f = T i f) ∧ (1 ≤ zz_ab (zz_jn T k x) k 3 ∧ zz_ab (zz_jn T k x) k 3 ≤ 3) := by
  obtain ⟨hA, hB, hC, hD, hE, hF, hG, hH⟩ := h
  obtain ⟨g1, g2, g3, g4, g5, g6, g7, g8, g9, g10, g11, g12⟩ := hH.2 k (by have h9 := hH.1; omega)
  have hh1 := hH.1
  have hor := zi_or (T (61 + k) 3).toNat x.toNat (by omega) (by omega)
  unfold zz_jn
  obtain ⟨pp, hpp⟩ : ∃ pp : Nat, pp = (T (61 + k) 3).toNat ||| 2 ^ x.toNat := ⟨_, rfl⟩
  rw [← hpp] at hor ⊢
  refine ⟨⟨?_, ?_, ?_, ?_, ?_, ?_, ?_, ?_⟩, fun i f hif => zz_u_ne _ _ hif, ?_⟩
  · exact zi_A_tr (by simp (disch := omega) only [zz_u_off, zz_u_ne, zz_u_same]) (by simp (disch := omega) only [zz_u_off, zz_u_ne, zz_u_same]) hA
  · exact zi_B_tr (by simp (disch := omega) only [zz_u_off, zz_u_ne, zz_u_same]) (by simp (disch := omega) only [zz_u_off, zz_u_ne, zz_u_same]) hB
  · exact zi_C_tr (by simp (disch := omega) only [zz_u_off, zz_u_ne, zz_u_same]) hC
  · exact zi_D_tr (Nat.le_refl _) (by simp (disch := omega) only [zz_u_off, zz_u_ne, zz_u_same]) (by simp (disch := omega) only [zz_u_off, zz_u_ne, zz_u_same]) (by simp (disch := omega) only [zz_u_off, zz_u_ne, zz_u_same]) (by simp (disch := omega) only [zz_u_off, zz_u_ne, zz_u_same]) (by first | (simp (disch := omega) only [zz_u_off, zz_u_ne, zz_u_same]; omega) | (simp (disch := omega) only [zz_u_off, zz_u_ne, zz_u_same]; exact Int.le_refl _) | (simp (disch := omega) only [zz_u_off, zz_u_ne, zz_u_same, Int.le_refl])) (by first | (simp (disch := omega) only [zz_u_off, zz_u_ne, zz_u_same]; omega) | (simp (disch := omega) only [zz_u_off, zz_u_ne, zz_u_same]; exact Int.le_refl _) | (simp (disch := omega) only [zz_u_off, zz_u_ne, zz_u_same, Int.le_refl])) hD
  · exact zi_E_tr (Nat.le_refl _) (by simp (disch := omega) only [zz_u_off, zz_u_ne, zz_u_same]) (by simp (disch := omega) only [zz_u_off, zz_u_ne, zz_u_same]) hE
  · exact zi_F_tr (by simp (disch := omega) only [zz_u_off, zz_u_ne, zz_u_same]) (fun i hi => (by simp (disch := omega) only [zz_u_off, zz_u_ne, zz_u_same])) (by first | (simp (disch := omega) only [zz_u_off, zz_u_ne, zz_u_same]; omega) | (simp (disch := omega) only [zz_u_off, zz_u_ne, zz_u_same]; exact Int.le_refl _) | (simp (disch := omega) only [zz_u_off, zz_u_ne, zz_u_same, Int.le_refl])) hF
  · exact zi_G_tr (by simp (disch := omega) only [zz_u_off, zz_u_ne, zz_u_same]) (fun i hi => (by simp (disch := omega) only [zz_u_off, zz_u_ne, zz_u_same])) hG
  · refine ⟨by simp (disch := omega) only [zz_u_off, zz_u_ne, zz_u_same]; exact hH.1, fun q hq => ?_⟩
    by_cases e : q = k
    · rw [e]
      unfold zi_h
      simp (disch := omega) only [zz_u_ne, zz_u_same]
      exact ⟨g1, g2, g3, ⟨by omega, by omega⟩, g5, g6, g7, g8, g9, fun z => ⟨(g10 z).1, by omega⟩, fun z => by omega, g12⟩
    · have h9 := hH.2 q hq
      unfold zi_h at h9 ⊢
      simp (disch := omega) only [zz_u_off, zz_u_ne]
      exact h9
  · have h9 := zi_on pp hor
    unfold zz_ab
    rw [zz_u_same, Int.toNat_natCast]
    simp only [show ¬ ((3 : Int) = 0) by decide, show ¬ ((3 : Int) = 1) by decide, show ¬ ((3 : Int) = 2) by decide, if_false, if_true]
    omega
theorem zk_complain {T : zz_S} {n : Nat} {x y : Int} (h : zi_ T n) (hx : 0 ≤ x ∧ x < 3) (hy : 0 ≤ y ∧ y < T 0 7) (hc : zz_cj T y (T 0 9).toNat 0 = -1 → T 0 9 < 16) : zi_ (zz_cS T x y) n ∧ (0 ≤ zk_cn T y ∧ zk_cn T y < zz_cS T x y 0 9) ∧ (zk_cn T y = T 0 9 → zz_cS T x y 0 9 = T 0 9 + 1 ∧ zz_ab (zz_cS T x y) (zk_cn T y).toNat 2 = 60 ∧ zz_ab (zz_cS T x y) (zk_cn T y).toNat 3 = 1 ∧ zz_ab (zz_cS T x y) (zk_cn T y).toNat 5 = -1) ∧ (¬ zk_cn T y = T 0 9 → zz_cS T x y 0 9 = T 0 9) ∧ (zz_cS T x y 0 3 = T 0 3 ∧ zz_cS T x y 0 7 = T 0 7 ∧ zz_cS T x y 0 10 = T 0 10) ∧ zz_ab (zz_cS T x y) (zk_cn T y).toNat 1 = y ∧ ¬ zz_ab (zz_cS T x y) (zk_cn T y).toNat 0 = 2 ∧ (1 ≤ zz_ab (zz_cS T x y) (zk_cn T y).toNat 3 ∧ zz_ab (zz_cS T x y) (zk_cn T y).toNat 3 ≤ 3) ∧ zz_ba (zz_cS T x y) y.toNat x.toNat (T 0 10) = zz_ba T y.toNat x.toNat (T 0 10) ∧ zz_cj (zz_cS T x y) y (zz_cS T x y 0 9).toNat 0 = zk_cn T y := by
  have h0 := h
  obtain ⟨hA, hB, hC, hD, hE, hF, hG, hH⟩ := h
  have hh1 := hH.1
  have hf1 := hF.1
  have ab3 : ∀ (S : zz_S) (c : Nat), zz_ab S c 3 = ((zz_on (S (61 + c) 3).toNat 10 : Nat) : Int) := fun S c => rfl
  by_cases q : zz_cj T y (T 0 9).toNat 0 = -1
  · have hc9 := hc q
    have hnone : ∀ z : Nat, z < (T 0 9).toNat → ¬ (T (61 + z) 0 = y ∧ ¬ T (61 + z) 1 = 2) := by
      rcases zi_cj1 (S := T) (x := y) (T 0 9).toNat 0 with ⟨-, h2⟩ | ⟨z, h1, h2, h3, h4⟩
      · exact fun z hz => h2 z (by omega) (by omega)
      · omega
    have hcn : zk_cn T y = T 0 9 := by unfold zk_cn; rw [if_pos q]
    obtain ⟨k, hk⟩ : ∃ k : Nat, k = (T 0 9).toNat := ⟨_, rfl⟩
    have hk9 : T 0 9 = (k : Int) := by omega
    obtain ⟨g1, g2, g3, g4, g5, g6, g7, g8, g9, g10, g11, g12⟩ := hH.2 k (by omega)
    have hp0 : T (61 + k) 3 = 0 := g11 (by omega)
    have hpw := zi_or 0 x.toNat (by decide) (by omega)
    have hon := zi_on2 x.toNat (by omega)
    obtain ⟨pp, hpp⟩ : ∃ pp : Nat, pp = 0 ||| 2 ^ x.toNat := ⟨_, rfl⟩
    rw [← hpp] at hpw hon
    have eS : zz_cS T x y = zz_u (zz_u (zz_u (zz_u (zz_u (zz_u (zz_u T (61 + k) 0 y) (61 + k) 1 0) (61 + k) 2 60) (61 + k) 4 0) (61 + k) 7 (-1)) 0 9 (T 0 9 + 1)) (61 + k) 3 (pp : Nat) := by
      unfold zz_cS
      rw [if_pos q, ← hk]
      unfold zz_jn zz_bg
      congr 1
      rw [hpp]
      simp (disch := omega) only [zz_u_ne]
      rw [hp0]
      rfl
    rw [eS, hcn]
    obtain ⟨V, hV⟩ : ∃ V : zz_S, V = zz_u (zz_u (zz_u (zz_u (zz_u (zz_u (zz_u T (61 + k) 0 y) (61 + k) 1 0) (61 + k) 2 60) (61 + k) 4 0) (61 + k) 7 (-1)) 0 9 (T 0 9 + 1)) (61 + k) 3 (pp : Nat) := ⟨_, rfl⟩
    rw [← hV]
    have vr : ∀ i : Nat, ¬ i = 0 → ¬ i = 61 + k → V i = T i := fun i h1 h2 => by rw [hV]; simp (disch := omega) only [zz_u_off]
    have v0 : ∀ f : Nat, ¬ f = 9 → V 0 f = T 0 f := fun f hf => by rw [hV]; simp (disch := omega) only [zz_u_off, zz_u_ne]
    have v9 : V 0 9 = T 0 9 + 1 := by rw [hV]; simp (disch := omega) only [zz_u_off, zz_u_ne, zz_u_same]
    have w0 : V (61 + k) 0 = y := by rw [hV]; simp (disch := omega) only [zz_u_off, zz_u_ne, zz_u_same]
    have w1 : V (61 + k) 1 = 0 := by rw [hV]; simp (disch := omega) only [zz_u_off, zz_u_ne, zz_u_same]
    have w2 : V (61 + k) 2 = 60 := by rw [hV]; simp (disch := omega) only [zz_u_off, zz_u_ne, zz_u_same]
    have w3 : V (61 + k) 3 = (pp : Nat) := by rw [hV]; simp (disch := omega) only [zz_u_off, zz_u_ne, zz_u_same]
    have w4 : V (61 + k) 4 = 0 := by rw [hV]; simp (disch := omega) only [zz_u_off, zz_u_ne, zz_u_same]
    have w5 : V (61 + k) 5 = T (61 + k) 5 := by rw [hV]; simp (disch := omega) only [zz_u_off, zz_u_ne, zz_u_same]
    have w6 : V (61 + k) 6 = T (61 + k) 6 := by rw [hV]; simp (disch := omega) only [zz_u_off, zz_u_ne, zz_u_same]
    have w7 : V (61 + k) 7 = -1 := by rw [hV]; simp (disch := omega) only [zz_u_off, zz_u_ne, zz_u_same]
    have k9 : (T 0 9).toNat = k := by omega
    refine ⟨⟨?_, ?_, ?_, ?_, ?_, ?_, ?_, ?_⟩, ⟨by omega, by omega⟩, fun _ => ⟨v9, ?_, ?_, ?_⟩, fun z => absurd rfl z, ⟨v0 3 (by omega), v0 7 (by omega), v0 10 (by omega)⟩, ?_, ?_, ?_, ?_, ?_⟩
    · exact zi_A_tr (v0 1 (by omega)) (vr 1 (by omega) (by omega)) hA
    · exact zi_B_tr (v0 3 (by omega)) (vr 2 (by omega) (by omega)) hB
    · exact zi_C_tr (v0 10 (by omega)) hC
    · exact zi_D_tr (Nat.le_refl _) (by rw [vr 3 (by omega) (by omega)]) (vr 4 (by omega) (by omega)) (vr 5 (by omega) (by omega)) (vr 6 (by omega) (by omega)) (by rw [v0 3 (by omega)]; exact Int.le_refl _) (by rw [v0 10 (by omega)]; exact Int.le_refl _) hD
    · exact zi_E_tr (Nat.le_refl _) (by rw [vr 7 (by omega) (by omega)]) (vr 10 (by omega) (by omega)) hE
    · exact zi_F_tr (v0 7 (by omega)) (fun i hi => vr _ (by omega) (by omega)) (by rw [v0 3 (by omega)]; exact Int.le_refl _) hF
    · exact zi_G_tr (v0 7 (by omega)) (fun i hi => vr _ (by omega) (by omega)) hG
    · refine ⟨by omega, fun c hc2 => ?_⟩
      unfold zi_h
      by_cases e : c = k
      · rw [e, w0, w1, w2, w3, w4, w5, w6, w7, v9, v0 7 (by omega), v0 10 (by omega)]
        exact ⟨⟨by omega, by omega⟩, ⟨by decide, by decide⟩, ⟨by decide, by decide⟩, ⟨by omega, by omega⟩, ⟨by decide, by decide⟩, g6, g7, ⟨by decide, by decide⟩, fun z => absurd z (by decide), fun _ => ⟨by omega, by omega⟩, fun z => by omega, fun z => absurd z (by decide)⟩
      · obtain ⟨j1, j2, j3, j4, j5, j6, j7, j8, j9, j10, j11, j12⟩ := hH.2 c hc2
        rw [vr (61 + c) (by omega) (by omega), v9, v0 7 (by omega), v0 10 (by omega)]
        exact ⟨j1, j2, j3, j4, j5, j6, j7, j8, j9, fun z => j10 (by omega), fun z => j11 (by omega), j12⟩
    · rw [k9]; exact w2
    · rw [k9, ab3, w3, Int.toNat_natCast, hon]; rfl
    · rw [k9]; exact w7
    · rw [k9]; exact w0
    · rw [k9]; show ¬ V (61 + k) 1 = 2; rw [w1]; decide
    · rw [k9, ab3, w3, Int.toNat_natCast, hon]; omega
    · unfold zz_ba
      rw [vr (37 + y.toNat) (by omega) (by omega), vr (13 + y.toNat) (by omega) (by omega)]
    · rcases zi_cj1 (S := V) (x := y) (V 0 9).toNat 0 with ⟨-, h2⟩ | ⟨z, h1, h2, h3, h4⟩
      · exact absurd ⟨w0, by rw [w1]; decide⟩ (h2 k (by omega) (by omega))
      · by_cases e : z = k
        · rw [h4]; omega
        · rw [vr (61 + z) (by omega) (by omega)] at h3
          exact absurd h3 (hnone z (by omega))
  · rcases zi_cj1 (S := T) (x := y) (T 0 9).toNat 0 with ⟨h1, -⟩ | ⟨k, h1, h2, h3, h4⟩
    · exact absurd h1 q
    · have hcn : zk_cn T y = (k : Int) := by unfold zk_cn; rw [if_neg q, h4]
      have eS : zz_cS T x y = zz_jn T k x := by
        unfold zz_cS
        rw [if_neg q, h4, Int.toNat_natCast]
      obtain ⟨j1, j2, j3⟩ := zk_join (k := k) h0 (by omega) hx
      rw [eS, hcn, Int.toNat_natCast]
      obtain ⟨V, hV⟩ : ∃ V : zz_S, V = zz_jn T k x := ⟨_, rfl⟩
      rw [← hV] at j1 j2 j3 ⊢
      have v9 : V 0 9 = T 0 9 := j2 0 9 (by omega)
      refine ⟨j1, ⟨by omega, by omega⟩, fun z => by omega, fun _ => v9, ⟨j2 0 3 (by omega), j2 0 7 (by omega), j2 0 10 (by omega)⟩, ?_, ?_, j3, ?_, ?_⟩
      · show V (61 + k) 0 = y
        rw [j2 _ _ (by omega)]
        exact h3.1
      · show ¬ V (61 + k) 1 = 2
        rw [j2 _ _ (by omega)]
        exact h3.2
      · unfold zz_ba
        rw [j2 (37 + y.toNat) _ (by omega), j2 (13 + y.toNat) 5 (by omega), j2 (13 + y.toNat) 6 (by omega), j2 (13 + y.toNat) 2 (by omega)]
      · rw [v9, zi_cj_ext (S := T) (fun z hz => ⟨j2 _ _ (by omega), j2 _ _ (by omega)⟩) _ _ (by omega)]
        exact h4
/-- to join once more -/
theorem zk_again {T : zz_S} {n k : Nat} {x y : Int} (h : zi_ T n) (hx : 0 ≤ x ∧ x < 3) (hk : (k : Int) < T 0 9) (hc : zz_cj T y (T 0 9).toNat 0 = (k : Int)) : zi_ (zz_cS T x y) n ∧ zz_cS T x y 0 = T 0 := by
  have eS : zz_cS T x y = zz_jn T k x := by
    unfold zz_cS
    rw [if_neg (by omega), hc, Int.toNat_natCast]
  obtain ⟨j1, j2, j3⟩ := zk_join (k := k) h hk hx
  rw [eS]
  exact ⟨j1, funext fun f => j2 0 f (by omega)⟩
