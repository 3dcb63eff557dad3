/-! what the class's methods compute, as plain functions of the world -/
/-- the newest row that fits -/
def zz_vo (th da va : Nat → Int) (t d z : Int) : Nat → Int
  | 0 => z
  | n + 1 => if th n = t ∧ da n ≤ d then va n else zz_vo th da va t d z n
theorem zz_vo_s {th da va : Nat → Int} {t d z : Int} {m : Nat} (h : 0 < m) : zz_vo th da va t d z m = if th (m - 1) = t ∧ da (m - 1) ≤ d then va (m - 1) else zz_vo th da va t d z (m - 1) := by
  obtain ⟨q, rfl⟩ : ∃ q, m = q + 1 := ⟨m - 1, by omega⟩
  rw [zz_vo, Nat.add_sub_cancel]
def zz_oo (th da va : Nat → Int) (c : Nat) (d : Int) : Nat → Int → Int
  | 0, o => o
  | n + 1, o => if zz_vo th da va o d (-1) c = -1 then o else zz_oo th da va c d n (zz_vo th da va o d (-1) c)
def zz_cb (S : zz_S) : Nat → Int → Int
  | 0, o => o
  | n + 1, o => if S 2 o.toNat = -1 then o else zz_cb S n (S 2 o.toNat)
theorem zz_cb_stop {S : zz_S} {o : Int} (h : S 2 o.toNat = -1) : ∀ {n : Nat}, zz_cb S n o = o
  | 0 => rfl
  | n + 1 => by rw [zz_cb, if_pos h]
def zz_cj (S : zz_S) (x : Int) : Nat → Nat → Int
  | 0, _ => -1
  | n + 1, j => if S (61 + j) 0 = x ∧ ¬ S (61 + j) 1 = 2 then (j : Int) else zz_cj S x n (j + 1)
/-- 1: the acts i and j are likes -/
def zz_li (S : zz_S) (i j : Nat) : Int := if ¬ (i : Int) = (j : Int) ∧ S (13 + i) 1 = S (13 + j) 1 ∧ S (13 + i) 0 = S (13 + j) 0 then 1 else 0
theorem zz_li_01 (S : zz_S) (i j : Nat) : zz_li S i j = 0 ∨ zz_li S i j = 1 := by unfold zz_li; split <;> omega
def zz_ln (S : zz_S) (i : Nat) : Nat → Int
  | 0 => 0
  | j + 1 => zz_ln S i j + zz_li S i j
def zz_ls (S : zz_S) (i : Nat) : Nat → Int
  | 0 => 0
  | j + 1 => zz_ls S i j + if zz_li S i j = 0 then 0 else S (13 + j) 3
theorem zz_ln_rng (S : zz_S) (i : Nat) : ∀ j : Nat, 0 ≤ zz_ln S i j ∧ zz_ln S i j ≤ (j : Int)
  | 0 => by simp [zz_ln]
  | j + 1 => by
    have h := zz_ln_rng S i j
    have h2 := zz_li_01 S i j
    rw [zz_ln]
    omega
theorem zz_ls_rng (S : zz_S) (i N : Nat) (hm : ∀ j : Nat, j < N → 0 ≤ S (13 + j) 3 ∧ S (13 + j) 3 ≤ 100) : ∀ j : Nat, j ≤ N → 0 ≤ zz_ls S i j ∧ zz_ls S i j ≤ 100 * (j : Int)
  | 0, _ => by simp [zz_ls]
  | j + 1, h => by
    have h1 := zz_ls_rng S i N hm j (by omega)
    have h2 := hm j (by omega)
    rw [zz_ls]
    split <;> omega
/-- 1: the act i fails the rule -/
def zz_fr (S : zz_S) (i : Nat) : Int := if zz_vo (S 8) (S 9) (S 10) (S (13 + i) 1) (S (13 + i) 2) 30 (S 7 3).toNat < S (13 + i) 3 then 1 else 0
/-- 1: it is unequal -/
def zz_un (S : zz_S) (i : Nat) : Int := if zz_ln S i (S 0 7).toNat < 2 then 0 else if 2 * (zz_ls S i (S 0 7).toNat / zz_ln S i (S 0 7).toNat) < S (13 + i) 3 then 1 else 0
def zz_ft (S : zz_S) (i : Nat) : Int := (if zz_fr S i = 0 then 0 else 1) + (if zz_un S i = 0 then 0 else 2)
theorem zz_ft_rng (S : zz_S) (i : Nat) : 0 ≤ zz_ft S i ∧ zz_ft S i ≤ 3 := by unfold zz_ft; split <;> split <;> omega
/-- what bars a complaint -/
def zz_ba (S : zz_S) (i p : Nat) (now : Int) : Int := if S (37 + i) p = -1 ∨ now - S (37 + i) p < 10 then 1 else if ¬ S (13 + i) 5 = 0 then 2 else if 365 < now - S (13 + i) 2 ∧ S (13 + i) 6 = 0 then 3 else 0
/-- a range of a whole row -/
def zz_rr (S : zz_S) (p n : Nat) (lo hi : Int) : Prop := ∀ j : Nat, j < n → lo ≤ S p j ∧ S p j ≤ hi
def zz_rc (S : zz_S) (p n f : Nat) (lo hi : Int) : Prop := ∀ j : Nat, j < n → lo ≤ S (p + j) f ∧ S (p + j) f ≤ hi
theorem zz_vo_rng {th da va : Nat → Int} {lo hi t d z : Int} (hz : lo ≤ z ∧ z ≤ hi) : ∀ {n : Nat}, (∀ j, j < n → lo ≤ va j ∧ va j ≤ hi) → lo ≤ zz_vo th da va t d z n ∧ zz_vo th da va t d z n ≤ hi
  | 0, _ => hz
  | n + 1, h => by
    have h1 := zz_vo_rng (th := th) (da := da) (va := va) (t := t) (d := d) hz (n := n) (fun j hj => h j (by omega))
    have h2 := h n (by omega)
    rw [zz_vo]
    split <;> assumption
theorem zz_oo_rng {th da va : Nat → Int} {lo hi d : Int} {c : Nat} (h : ∀ j, j < c → lo ≤ va j ∧ va j ≤ hi) (hl : lo ≤ -1) (hh : -1 ≤ hi) : ∀ (n : Nat) (o : Int), lo ≤ o ∧ o ≤ hi → lo ≤ zz_oo th da va c d n o ∧ zz_oo th da va c d n o ≤ hi
  | 0, o, ho => ho
  | n + 1, o, ho => by
    rw [zz_oo]
    split
    · exact ho
    · exact zz_oo_rng h hl hh n _ (zz_vo_rng ⟨hl, hh⟩ h)
theorem zz_cb_rng {S : zz_S} (h : zz_rr S 2 10 (-1) 9) : ∀ (n : Nat) (o : Int), 0 ≤ o ∧ o ≤ 9 → 0 ≤ zz_cb S n o ∧ zz_cb S n o ≤ 9
  | 0, o, ho => ho
  | n + 1, o, ho => by
    have h1 := h o.toNat (by omega)
    rw [zz_cb]
    split
    · exact ho
    · exact zz_cb_rng h n _ (by omega)
theorem zz_cj_rng {S : zz_S} {x : Int} : ∀ (n j : Nat), -1 ≤ zz_cj S x n j ∧ zz_cj S x n j < (n + j : Int)
  | 0, j => by rw [zz_cj]; omega
  | n + 1, j => by
    have h := zz_cj_rng (S := S) (x := x) n (j + 1)
    rw [zz_cj]
    split <;> omega
/-- days go by for a complaint -/
def zz_ld (S : zz_S) (j : Nat) (x : Int) : zz_S := if ¬ S (61 + j) 1 = 0 ∨ S (61 + j) 4 = 1 then S else if (if 0 < S (61 + j) 2 - x then S (61 + j) 2 - x else 0) = 0 then zz_u (zz_u S (61 + j) 2 (if 0 < S (61 + j) 2 - x then S (61 + j) 2 - x else 0)) (61 + j) 1 2 else zz_u S (61 + j) 2 (if 0 < S (61 + j) 2 - x then S (61 + j) 2 - x else 0)
theorem zz_p2 {y : Int} (h : 0 ≤ y ∧ y < 16) : 0 ≤ ((2 ^ y.toNat : Nat) : Int) ∧ ((2 ^ y.toNat : Nat) : Int) < 65536 := by
  have h1 : (2 : Nat) ^ y.toNat < 2 ^ 16 := Nat.pow_lt_pow_right (by omega) (by omega)
  exact ⟨Int.natCast_nonneg _, Int.ofNat_lt.mpr h1⟩
/-- what holds of the class's numbers -/
def zz_IC (S : zz_S) : Prop := (0 ≤ S 0 1 ∧ S 0 1 ≤ 7) ∧ (0 ≤ S 0 3 ∧ S 0 3 ≤ 10) ∧ (0 ≤ S 0 7 ∧ S 0 7 ≤ 24) ∧ (0 ≤ S 0 9 ∧ S 0 9 ≤ 16) ∧ (0 ≤ S 0 10 ∧ S 0 10 ≤ 5000) ∧ (0 ≤ S 3 3 ∧ S 3 3 ≤ 512) ∧ (0 ≤ S 7 3 ∧ S 7 3 ≤ 512) ∧ zz_rr S 2 10 (-1) 9 ∧ zz_rr S 6 512 (-1) 9 ∧ zz_rc S 13 24 0 0 9 ∧ zz_rc S 13 24 1 0 3 ∧ zz_rc S 13 24 2 0 5000 ∧ zz_rc S 13 24 3 0 100 ∧ zz_rc S 13 24 4 0 1000 ∧ zz_rc S 13 24 5 0 1 ∧ zz_rc S 13 24 6 0 1 ∧ zz_rc S 13 24 7 (-1) 1000 ∧ (∀ i : Nat, i < 24 → zz_rr S (37 + i) 10 (-1) 5000) ∧ zz_rc S 61 16 0 0 23 ∧ zz_rc S 61 16 1 0 2 ∧ zz_rc S 61 16 2 0 60 ∧ zz_rc S 61 16 3 0 1023 ∧ zz_rc S 61 16 4 0 2 ∧ zz_rc S 61 16 5 0 5000 ∧ zz_rc S 61 16 6 0 1 ∧ zz_rc S 61 16 7 (-1) 3 ∧ (∀ j : Nat, j < 16 → S (61 + j) 4 = 1 → S (61 + j) 5 ≤ S 0 10) ∧ zz_rr S 1 7 0 65535
/-- worlds that differ in remedies alone -/
def zz_sr (S T : zz_S) : Prop := ∀ k f : Nat, ¬ (13 ≤ k ∧ k < 37 ∧ f = 7) → T k f = S k f
theorem zz_sr_row {S T : zz_S} (h : zz_sr S T) {k : Nat} (hk : k < 13) : T k = S k := funext fun f => h k f (by omega)
theorem zz_li_sr {S T : zz_S} (h : zz_sr S T) (i j : Nat) : zz_li T i j = zz_li S i j := by
  unfold zz_li
  rw [h (13 + i) 1 (by omega), h (13 + j) 1 (by omega), h (13 + i) 0 (by omega), h (13 + j) 0 (by omega)]
theorem zz_ln_sr {S T : zz_S} (h : zz_sr S T) (i : Nat) : ∀ j : Nat, zz_ln T i j = zz_ln S i j
  | 0 => rfl
  | j + 1 => by rw [zz_ln, zz_ln, zz_ln_sr h i j, zz_li_sr h]
theorem zz_ls_sr {S T : zz_S} (h : zz_sr S T) (i : Nat) : ∀ j : Nat, zz_ls T i j = zz_ls S i j
  | 0 => rfl
  | j + 1 => by rw [zz_ls, zz_ls, zz_ls_sr h i j, zz_li_sr h, h (13 + j) 3 (by omega)]
theorem zz_ft_sr {S T : zz_S} (h : zz_sr S T) (i : Nat) : zz_ft T i = zz_ft S i := by
  unfold zz_ft zz_fr zz_un
  rw [zz_sr_row h (show 8 < 13 by omega), zz_sr_row h (show 9 < 13 by omega), zz_sr_row h (show 10 < 13 by omega), zz_sr_row h (show 7 < 13 by omega), zz_sr_row h (show 0 < 13 by omega), zz_ln_sr h, zz_ls_sr h, h (13 + i) 1 (by omega), h (13 + i) 2 (by omega), h (13 + i) 3 (by omega)]
/-- 1: a remedy of the complaint c is for the act i -/
def zz_rb (S : zz_S) (c i : Nat) : Int := if (i : Int) = S (61 + c) 0 then 1 else if zz_li S (S (61 + c) 0).toNat i = 0 then 0 else if zz_ft S i = 0 then 0 else 1
def zz_rS (S : zz_S) (c : Nat) (x : Int) : Nat → zz_S
  | 0 => S
  | i + 1 => if zz_rb S c i = 0 then zz_rS S c x i else zz_u (zz_rS S c x i) (13 + i) 7 ((S (13 + i) 4 * x) / 100)
def zz_rn (S : zz_S) (c : Nat) : Nat → Int
  | 0 => 0
  | i + 1 => zz_rn S c i + zz_rb S c i
theorem zz_rb_01 (S : zz_S) (c i : Nat) : zz_rb S c i = 0 ∨ zz_rb S c i = 1 := by unfold zz_rb; omega
theorem zz_rn_rng (S : zz_S) (c : Nat) : ∀ i : Nat, 0 ≤ zz_rn S c i ∧ zz_rn S c i ≤ (i : Int)
  | 0 => by simp [zz_rn]
  | i + 1 => by
    have h := zz_rn_rng S c i
    have h2 := zz_rb_01 S c i
    rw [zz_rn]
    omega
theorem zz_rS_sr (S : zz_S) (c : Nat) (x : Int) : ∀ i : Nat, i ≤ 24 → zz_sr S (zz_rS S c x i)
  | 0, _ => fun _ _ _ => rfl
  | i + 1, hi => by
    intro k f h
    rw [zz_rS]
    split
    · exact zz_rS_sr S c x i (by omega) k f h
    · rw [zz_u_ne _ _ (by omega)]
      exact zz_rS_sr S c x i (by omega) k f h
/-- days go by for the first j complaints -/
def zz_pS (S : zz_S) (x : Int) : Nat → zz_S
  | 0 => S
  | j + 1 => zz_ld (zz_pS S x j) j x
theorem zz_ld_off {S : zz_S} {j k f : Nat} {x : Int} (h : k ≠ 61 + j) : zz_ld S j x k f = S k f := by
  unfold zz_ld
  by_cases h1 : ¬ S (61 + j) 1 = 0 ∨ S (61 + j) 4 = 1
  · rw [if_pos h1]
  · rw [if_neg h1]
    generalize (if 0 < S (61 + j) 2 - x then S (61 + j) 2 - x else 0) = d
    by_cases h2 : d = 0
    · rw [if_pos h2, zz_u_ne _ _ (by omega), zz_u_ne _ _ (by omega)]
    · rw [if_neg h2, zz_u_ne _ _ (by omega)]
theorem zz_pS_off (S : zz_S) (x : Int) : ∀ (j k f : Nat), (k < 61 ∨ 61 + j ≤ k) → zz_pS S x j k f = S k f
  | 0, _, _, _ => rfl
  | j + 1, k, f, h => by
    rw [zz_pS, zz_ld_off (by omega)]
    exact zz_pS_off S x j k f (by omega)
def zz_gn (S : zz_S) (q lim : Int) : Nat → Int
  | 0 => 0
  | i + 1 => zz_gn S q lim i + if S (13 + i) 1 = q then (if lim < S (13 + i) 3 then 1 else 0) - zz_fr S i else 0
theorem zz_fr_01 (S : zz_S) (i : Nat) : zz_fr S i = 0 ∨ zz_fr S i = 1 := by unfold zz_fr; split <;> omega
theorem zz_gn_rng (S : zz_S) (q lim : Int) : ∀ i : Nat, -(i : Int) ≤ zz_gn S q lim i ∧ zz_gn S q lim i ≤ (i : Int)
  | 0 => by simp [zz_gn]
  | i + 1 => by
    have h := zz_gn_rng S q lim i
    have h2 := zz_fr_01 S i
    rw [zz_gn]
    omega
/-- the world behind a complaint's beginning -/
def zz_bg (S : zz_S) (j : Nat) (x : Int) : zz_S := zz_u (zz_u (zz_u (zz_u (zz_u S (61 + j) 0 x) (61 + j) 1 0) (61 + j) 2 60) (61 + j) 4 0) (61 + j) 7 (-1)
def zz_jn (S : zz_S) (j : Nat) (x : Int) : zz_S := zz_u S (61 + j) 3 ((S (61 + j) 3).toNat ||| 2 ^ x.toNat : Nat)
/-- .. and behind a complaint -/
def zz_cS (S : zz_S) (x y : Int) : zz_S := if zz_cj S y (S 0 9).toNat 0 = -1 then zz_jn (zz_u (zz_bg S (S 0 9).toNat y) 0 9 (S 0 9 + 1)) (S 0 9).toNat x else zz_jn S (zz_cj S y (S 0 9).toNat 0).toNat x
theorem zz_mulb {x y A B : Int} (hx : 0 ≤ x ∧ x ≤ A) (hy : 0 ≤ y ∧ y ≤ B) : 0 ≤ x * y ∧ x * y ≤ A * B := ⟨Int.mul_nonneg hx.1 hy.1, Int.mul_le_mul hx.2 hy.2 hy.1 (by omega)⟩
