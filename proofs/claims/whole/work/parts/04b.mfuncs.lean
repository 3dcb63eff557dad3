/-! what the reference's methods compute, as plain functions of its rows -/
/-- 1: the word that is typed is the k-th -/
def zz_mty (wd : Nat → Int) (n : Int) (k : Nat) : Int := if k = 0 then (if n = 5 ∧ wd 0 = 100 ∧ wd 1 = 101 ∧ wd 2 = 108 ∧ wd 3 = 97 ∧ wd 4 = 121 then 1 else 0) else if k = 1 then (if n = 7 ∧ wd 0 = 112 ∧ wd 1 = 114 ∧ wd 2 = 111 ∧ wd 3 = 109 ∧ wd 4 = 105 ∧ wd 5 = 115 ∧ wd 6 = 101 then 1 else 0) else if k = 2 then (if n = 4 ∧ wd 0 = 114 ∧ wd 1 = 117 ∧ wd 2 = 108 ∧ wd 3 = 101 then 1 else 0) else (if n = 6 ∧ wd 0 = 97 ∧ wd 1 = 110 ∧ wd 2 = 115 ∧ wd 3 = 119 ∧ wd 4 = 101 ∧ wd 5 = 114 then 1 else 0)
/-- the last of the first k kinds that is typed -/
def zz_mtk (wd : Nat → Int) (n : Int) : Nat → Int
  | 0 => -1
  | k + 1 => if zz_mty wd n k = 0 then zz_mtk wd n k else (k : Int)
theorem zz_mtk_rng (wd : Nat → Int) (n : Int) : ∀ k : Nat, -1 ≤ zz_mtk wd n k ∧ zz_mtk wd n k < (k : Int)
  | 0 => by rw [zz_mtk]; omega
  | k + 1 => by
    have h := zz_mtk_rng wd n k
    rw [zz_mtk]
    split <;> omega
theorem zz_mty_01 (wd : Nat → Int) (n : Int) (k : Nat) : zz_mty wd n k = 0 ∨ zz_mty wd n k = 1 := by unfold zz_mty; omega
def zz_mwo (af : Nat → Int) (d : Int) : Nat → Int → Int
  | 0, o => o
  | n + 1, o => if af (5001 * o + d).toNat ≤ 0 then o else zz_mwo af d n (af (5001 * o + d).toNat - 1)
theorem zz_mwo_rng {af : Nat → Int} {d : Int} (hd : 0 ≤ d ∧ d ≤ 5000) (h : ∀ j, j < 50010 → 0 ≤ af j ∧ af j ≤ 10) : ∀ (n : Nat) (o : Int), 0 ≤ o ∧ o ≤ 9 → 0 ≤ zz_mwo af d n o ∧ zz_mwo af d n o ≤ 9
  | 0, o, ho => ho
  | n + 1, o, ho => by
    have h1 := h (5001 * o + d).toNat (by omega)
    rw [zz_mwo]
    split
    · exact ho
    · exact zz_mwo_rng hd h n _ (by omega)
def zz_mcl (ab : Nat → Int) : Nat → Int → Int
  | 0, o => o
  | n + 1, o => if ab o.toNat = -1 then o else zz_mcl ab n (ab o.toNat)
theorem zz_mcl_stop {ab : Nat → Int} {o : Int} (h : ab o.toNat = -1) : ∀ {n : Nat}, zz_mcl ab n o = o
  | 0 => rfl
  | n + 1 => by rw [zz_mcl, if_pos h]
def zz_mli (kd wh : Nat → Int) (i j : Nat) : Int := if ¬ (i : Int) = (j : Int) ∧ kd i = kd j ∧ wh i = wh j then 1 else 0
theorem zz_mli_01 (kd wh : Nat → Int) (i j : Nat) : zz_mli kd wh i j = 0 ∨ zz_mli kd wh i j = 1 := by unfold zz_mli; split <;> omega
def zz_mln (kd wh : Nat → Int) (i : Nat) : Nat → Int
  | 0 => 0
  | j + 1 => zz_mln kd wh i j + (if zz_mli kd wh i j = 0 then 0 else 1)
theorem zz_mln_rng (kd wh : Nat → Int) (i : Nat) : ∀ j : Nat, 0 ≤ zz_mln kd wh i j ∧ zz_mln kd wh i j ≤ (j : Int)
  | 0 => by simp [zz_mln]
  | j + 1 => by
    have h := zz_mln_rng kd wh i j
    rw [zz_mln]
    omega
def zz_mls (kd wh ms : Nat → Int) (i : Nat) : Nat → Int
  | 0 => 0
  | j + 1 => zz_mls kd wh ms i j + (if zz_mli kd wh i j = 0 then 0 else ms j)
theorem zz_mls_rng (kd wh ms : Nat → Int) (i N : Nat) (hm : ∀ j : Nat, j < N → 0 ≤ ms j ∧ ms j ≤ 100) : ∀ j : Nat, j ≤ N → 0 ≤ zz_mls kd wh ms i j ∧ zz_mls kd wh ms i j ≤ 100 * (j : Int)
  | 0, _ => by simp [zz_mls]
  | j + 1, h => by
    have h1 := zz_mls_rng kd wh ms i N hm j (by omega)
    have h2 := hm j (by omega)
    rw [zz_mls]
    omega
def zz_mfr (ms lm kd td : Nat → Int) (i : Nat) : Int := if lm (5001 * kd i + td i).toNat < ms i then 1 else 0
theorem zz_mfr_01 (ms lm kd td : Nat → Int) (i : Nat) : zz_mfr ms lm kd td i = 0 ∨ zz_mfr ms lm kd td i = 1 := by unfold zz_mfr; split <;> omega
def zz_mun (kd wh ms : Nat → Int) (n i : Nat) : Int := if zz_mln kd wh i n < 2 then 0 else if 2 * (zz_mls kd wh ms i n / zz_mln kd wh i n) < ms i then 1 else 0
def zz_mft (ms lm kd td wh : Nat → Int) (n i : Nat) : Int := (if zz_mfr ms lm kd td i = 0 then 0 else 1) + (if zz_mun kd wh ms n i = 0 then 0 else 2)
theorem zz_mft_rng (ms lm kd td wh : Nat → Int) (n i : Nat) : 0 ≤ zz_mft ms lm kd td wh n i ∧ zz_mft ms lm kd td wh n i ≤ 3 := by unfold zz_mft; split <;> split <;> omega
/-- what bars a complaint: plea's row, the day, in court, waived, told -/
def zz_mba (pl ct wv td : Nat → Int) (now : Int) (p i : Nat) : Int := if pl (10 * i + p) = -1 ∨ now - pl (10 * i + p) < 10 then 1 else if ¬ ct i = 0 then 2 else if 365 < now - td i ∧ wv i = 0 then 3 else 0
def zz_mcj (ab st : Nat → Int) (x : Int) : Nat → Int
  | 0 => -1
  | j + 1 => if ab j = x ∧ ¬ st j = 2 then (j : Int) else zz_mcj ab st x j
theorem zz_mcj_rng (ab st : Nat → Int) (x : Int) : ∀ j : Nat, -1 ≤ zz_mcj ab st x j ∧ zz_mcj ab st x j < (j : Int)
  | 0 => by rw [zz_mcj]; omega
  | j + 1 => by
    have h := zz_mcj_rng ab st x j
    rw [zz_mcj]
    split <;> omega
def zz_mow (ak an : Nat → Int) (j : Nat) : Int := if ¬ ak j = -1 ∧ an j = 0 then 1 else 0
def zz_mrb (ab ms lm kd td wh : Nat → Int) (n c i : Nat) : Int := if (i : Int) = ab c then 1 else if zz_mli kd wh (ab c).toNat i = 0 then 0 else if zz_mft ms lm kd td wh n i = 0 then 0 else 1
theorem zz_mrb_01 (ab ms lm kd td wh : Nat → Int) (n c i : Nat) : zz_mrb ab ms lm kd td wh n c i = 0 ∨ zz_mrb ab ms lm kd td wh n c i = 1 := by unfold zz_mrb; omega
/-- the remedies of the first i acts are given -/
def zz_mrS (S : zz_S) (n c : Nat) (x : Int) : Nat → zz_S
  | 0 => S
  | i + 1 => if zz_mrb (S 91) (S 85) (S 81) (S 83) (S 84) (S 82) n c i = 0 then zz_mrS S n c x i else zz_u (zz_mrS S n c x i) 89 i ((x * S 86 i) / 100)
def zz_mrn (ab ms lm kd td wh : Nat → Int) (n c : Nat) : Nat → Int
  | 0 => 0
  | i + 1 => zz_mrn ab ms lm kd td wh n c i + zz_mrb ab ms lm kd td wh n c i
theorem zz_mrn_rng (ab ms lm kd td wh : Nat → Int) (n c : Nat) : ∀ i : Nat, 0 ≤ zz_mrn ab ms lm kd td wh n c i ∧ zz_mrn ab ms lm kd td wh n c i ≤ (i : Int)
  | 0 => by simp [zz_mrn]
  | i + 1 => by
    have h := zz_mrn_rng ab ms lm kd td wh n c i
    have h2 := zz_mrb_01 ab ms lm kd td wh n c i
    rw [zz_mrn]
    omega
theorem zz_mrS_off (S : zz_S) (n c : Nat) (x : Int) {k : Nat} (hk : k ≠ 89) : ∀ i : Nat, zz_mrS S n c x i k = S k
  | 0 => rfl
  | i + 1 => by
    rw [zz_mrS]
    split
    · exact zz_mrS_off S n c x hk i
    · rw [zz_u_off _ _ hk]
      exact zz_mrS_off S n c x hk i
/-- a day goes by for the complaint c -/
def zz_mp0 (S : zz_S) (c : Nat) : zz_S := if ¬ S 92 c = 0 ∨ ¬ zz_mow (S 95) (S 96) c = 0 then S else zz_u (zz_u S 93 c (S 93 c - 1)) 92 c (if S 93 c - 1 = 0 then 2 else 0)
def zz_mp1 (S : zz_S) : Nat → zz_S
  | 0 => S
  | c + 1 => zz_mp0 (zz_mp1 S c) c
def zz_mpd (S : zz_S) (n : Nat) : Nat → zz_S
  | 0 => S
  | k + 1 => zz_mp1 (zz_u (zz_mpd S n k) 77 0 (zz_mpd S n k 77 0 + 1)) n
theorem zz_mp0_off (S : zz_S) (c : Nat) {k : Nat} (h1 : k ≠ 92) (h2 : k ≠ 93) : zz_mp0 S c k = S k := by
  unfold zz_mp0
  split
  · rfl
  · rw [zz_u_off _ _ h1, zz_u_off _ _ h2]
theorem zz_mp1_off (S : zz_S) {k : Nat} (h1 : k ≠ 92) (h2 : k ≠ 93) : ∀ c : Nat, zz_mp1 S c k = S k
  | 0 => rfl
  | c + 1 => by rw [zz_mp1, zz_mp0_off _ _ h1 h2]; exact zz_mp1_off S h1 h2 c
theorem zz_mp0_ne (S : zz_S) {c j k : Nat} (h : j ≠ c) : zz_mp0 S c k j = S k j := by
  unfold zz_mp0
  split
  · rfl
  · rw [zz_u_ne _ _ (by omega), zz_u_ne _ _ (by omega)]
theorem zz_mp1_ne (S : zz_S) {j k : Nat} : ∀ c : Nat, c ≤ j → zz_mp1 S c k j = S k j
  | 0, _ => rfl
  | c + 1, h => by rw [zz_mp1, zz_mp0_ne _ (by omega)]; exact zz_mp1_ne S c (by omega)
theorem zz_mp1_at (S : zz_S) {j k : Nat} : ∀ c : Nat, j < c → zz_mp1 S c k j = zz_mp0 (zz_mp1 S j) j k j
  | 0, h => absurd h (Nat.not_lt_zero j)
  | c + 1, h => by
    rw [zz_mp1]
    by_cases q : j = c
    · rw [q]
    · rw [zz_mp0_ne _ q]
      exact zz_mp1_at S c (by omega)
theorem zz_mp0_lo (S : zz_S) (c j : Nat) : S 93 j - 1 ≤ zz_mp0 S c 93 j := by
  unfold zz_mp0
  split
  · omega
  · rw [zz_u_ne _ _ (by omega), zz_u_at]
    split
    next h => rw [h.2]; omega
    next => omega
theorem zz_mp1_lo (S : zz_S) (j c : Nat) : S 93 j - 1 ≤ zz_mp1 S c 93 j := by
  by_cases h : j < c
  · rw [zz_mp1_at S c h]
    have h1 := zz_mp0_lo (zz_mp1 S j) j j
    rw [zz_mp1_ne S j (Nat.le_refl j)] at h1
    exact h1
  · rw [zz_mp1_ne S c (by omega)]; omega
theorem zz_mpd_lo (S : zz_S) (n j : Nat) : ∀ k : Nat, S 93 j - k ≤ zz_mpd S n k 93 j
  | 0 => by rw [zz_mpd]; omega
  | k + 1 => by
    have h := zz_mpd_lo S n j k
    have h2 := zz_mp1_lo (zz_u (zz_mpd S n k) 77 0 (zz_mpd S n k 77 0 + 1)) j n
    rw [zz_u_ne _ _ (by omega)] at h2
    rw [zz_mpd]
    omega
theorem zz_mpd_off (S : zz_S) (n : Nat) {k f : Nat} (h1 : k ≠ 92) (h2 : k ≠ 93) (h3 : ¬ (k = 77 ∧ f = 0)) : ∀ i : Nat, zz_mpd S n i k f = S k f
  | 0 => rfl
  | i + 1 => by
    rw [zz_mpd, zz_mp1_off _ h1 h2, zz_u_ne _ _ h3]
    exact zz_mpd_off S n h1 h2 h3 i
theorem zz_mpd_day (S : zz_S) (n : Nat) : ∀ i : Nat, zz_mpd S n i 77 0 = S 77 0 + i
  | 0 => by rw [zz_mpd]; omega
  | i + 1 => by
    have h := zz_mpd_day S n i
    rw [zz_mpd, zz_mp1_off _ (by omega) (by omega), zz_u_same]
    omega
def zz_on (x : Nat) : Nat → Nat
  | 0 => 0
  | k + 1 => zz_on x k + x / 2 ^ k % 2
theorem zz_on_rng (x : Nat) : ∀ k : Nat, zz_on x k ≤ k
  | 0 => by rw [zz_on]; omega
  | k + 1 => by
    have h := zz_on_rng x k
    rw [zz_on]
    omega
def zz_mgn (ms lm kd td : Nat → Int) (q lim : Int) : Nat → Int
  | 0 => 0
  | i + 1 => zz_mgn ms lm kd td q lim i + (if ¬ kd i = q ∨ (if lim < ms i then 1 else 0) = zz_mfr ms lm kd td i then 0 else if lim < ms i then 1 else -1)
theorem zz_mgn_rng (ms lm kd td : Nat → Int) (q lim : Int) : ∀ i : Nat, -(i : Int) ≤ zz_mgn ms lm kd td q lim i ∧ zz_mgn ms lm kd td q lim i ≤ (i : Int)
  | 0 => by simp [zz_mgn]
  | i + 1 => by
    have h := zz_mgn_rng ms lm kd td q lim i
    rw [zz_mgn]
    omega
/-- an office acts from the day d on: the first n of its days -/
def zz_mfl (S : zz_S) (p : Nat) (b : Int) (v : Int) (d : Nat) : Nat → zz_S
  | 0 => S
  | n + 1 => zz_u (zz_mfl S p b v d n) p (b + (d + n : Nat)).toNat v
theorem zz_mfl_off (S : zz_S) (p : Nat) (b v : Int) (d : Nat) {k : Nat} (h : k ≠ p) : ∀ n : Nat, zz_mfl S p b v d n k = S k
  | 0 => rfl
  | n + 1 => by rw [zz_mfl, zz_u_off _ _ h]; exact zz_mfl_off S p b v d h n
def zz_IM (S : zz_S) : Prop := (0 ≤ S 77 0 ∧ S 77 0 ≤ 5000) ∧ (0 ≤ S 77 2 ∧ S 77 2 ≤ 7) ∧ (0 ≤ S 77 3 ∧ S 77 3 ≤ 10) ∧ (0 ≤ S 77 7 ∧ S 77 7 ≤ 24) ∧ (0 ≤ S 77 17 ∧ S 77 17 ≤ 16) ∧ zz_rr S 80 50010 0 10 ∧ zz_rr S 81 20004 0 100 ∧ zz_rr S 82 24 0 9 ∧ zz_rr S 83 24 0 3 ∧ zz_rr S 84 24 0 5000 ∧ zz_rr S 85 24 0 100 ∧ zz_rr S 86 24 0 1000 ∧ zz_rr S 87 24 0 1 ∧ zz_rr S 88 24 0 1 ∧ zz_rr S 90 240 (-1) 5000 ∧ zz_rr S 91 16 0 23 ∧ zz_rr S 92 16 0 2 ∧ zz_rr S 93 16 0 60 ∧ zz_rr S 94 16 0 1023 ∧ zz_rr S 95 16 (-1) 5000 ∧ zz_rr S 96 16 0 1 ∧ zz_rr S 97 16 0 1 ∧ zz_rr S 98 16 (-1) 3 ∧ zz_rr S 79 10 (-1) 9 ∧ (∀ j : Nat, j < 16 → S 95 j ≤ S 77 0)
