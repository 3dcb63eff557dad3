
/-- one turn of the law's loop -/
theorem lw_step {p : Program} {e : Env} {s : State} {m : MethodId} {below : List Frame} {meth : Method} {c : Code} {b L : Nat} {xs : Nat → Int32} {G : zz_G} {Y : zz_Y} {a : Nat → Nat} (l : Launch) (hl9 : l.stackTraces = false) (Hq : zq_ p s m meth c b L xs G Y) {S : zz_S} {n : Nat} (h : zr_ S n) (hn0 : n ≤ 512) (kk : 4 * n + 4 ≤ L → ∀ S2 : zz_S, zr_ S2 (n + 1) → zg_ p l e s m b below meth c G a (20000 + 4 * (n + 1)) S2 23 (zv_ b a (n + 1)) []) : zg_ p l e s m b below meth c G a (20000 + 4 * n) S 23 (zv_ b a n) [] := by
  obtain ⟨hC, hts, hX, hbl, hL, hF, hr, hlk⟩ := id Hq
  have hLr : zz_R (L : Int) := ⟨by omega, by omega⟩
  refine gd_lveq (lv' := [(0, .ref b), (1, .ref (a 0)), (2, .ref (a 77)), (3, .ref (a 99)), (4, zz_v ((4 * n : Nat) : Int))]) rfl ?_
  refine gd_iload hC dL_law_23 (j := 4) rfl ?_
  refine gd_aload_n hC dL_law_25 rfl (j := 0) rfl ?_
  refine gd_sln hC hX hbl rfl dL_law_26 ?_
  refine gd_iconst hC dL_law_27 ?_
  refine gd_isub hC dL_law_28 ?_
  refine gd_icmp_gt hC dL_law_29 (tgt := 1602) (by decide) ⟨by omega, by omega⟩ ⟨by omega, by omega⟩ (fun c1 => ?_) (fun c1 => ?_)
  · skip
    refine gd_iconst hC dL_law_1602 ?_
    intro hR H locs ls hP hD hS hl
    refine W.widen (k := 601024) (n := 7293033) (by omega) (by omega) ?_
    refine va_forget hS.2.2 ?_
    exact lw_ret hC.1 hC.2.1 hr hlk dL_law_1603
  · skip
    have hnL : 4 * n + 4 ≤ L := by omega
    have k2 : ∀ S2 : zz_S, zr_ S2 (n + 1) → zg_ p l e s m b below meth c G a (20000 + 4 * (n + 1)) S2 1596 (zv_ b a n) [] := fun S2 h2 => by
      refine gd_iinc hC dL_law_1596 (j := 4) rfl (y := ((4 * (n + 1) : Nat) : Int)) (by omega) (by decide) (lv' := [(4, zz_v ((4 * (n + 1) : Nat) : Int)), (0, .ref b), (1, .ref (a 0)), (2, .ref (a 77)), (3, .ref (a 99))]) rfl ?_
      refine gd_goto hC dL_law_1599 (tgt := 23) (by decide) ?_
      exact gd_sub [1, 2, 3, 4, 0] rfl (kk hnL S2 h2)
    refine gd_aload_n hC dL_law_32 rfl (j := 0) rfl ?_
    refine gd_iload hC dL_law_33 (j := 4) rfl ?_
    refine gd_sld hC hX hbl rfl hL (j := 4 * n) rfl (by omega) dL_law_35 ?_
    refine gd_bipush hC dL_law_36 rfl ?_
    refine gd_iand31 hC dL_law_38 ?_
    obtain ⟨z, hz⟩ : ∃ z : Int, z = (xs (4 * n)).toInt % 32 := ⟨_, rfl⟩
    refine gd_top (y := z) hz.symm ?_
    have hz2 : 0 ≤ z ∧ z < 32 := by omega
    have hcs : (z < 0 ∨ 22 < z) ∨ z = 0 ∨ z = 1 ∨ z = 2 ∨ z = 3 ∨ z = 4 ∨ z = 5 ∨ z = 6 ∨ z = 7 ∨ z = 8 ∨ z = 9 ∨ z = 10 ∨ z = 11 ∨ z = 12 ∨ z = 13 ∨ z = 14 ∨ z = 15 ∨ z = 16 ∨ z = 17 ∨ z = 18 ∨ z = 19 ∨ z = 20 ∨ z = 21 ∨ z = 22 := by omega
    rcases hcs with hcs | hcs | hcs | hcs | hcs | hcs | hcs | hcs | hcs | hcs | hcs | hcs | hcs | hcs | hcs | hcs | hcs | hcs | hcs | hcs | hcs | hcs | hcs | hcs
    · skip
      refine gd_tableOut hC dL_law_39 ⟨by omega, by omega⟩ hcs (tgt := 1596) (by decide) ?_
      exact gd_wide (by omega) (k2 S (zr_s h))
    · skip
      refine gd_tableIn hC dL_law_39 0 hcs ⟨by decide, by decide⟩ (by decide) (by decide) rfl (tgt := 144) (by decide) ?_
      exact lk_letter l hl9 Hq h hnL k2
    · skip
      refine gd_tableIn hC dL_law_39 1 hcs ⟨by decide, by decide⟩ (by decide) (by decide) rfl (tgt := 202) (by decide) ?_
      exact lk_office l hl9 Hq h hnL k2
    · skip
      refine gd_tableIn hC dL_law_39 2 hcs ⟨by decide, by decide⟩ (by decide) (by decide) rfl (tgt := 258) (by decide) ?_
      exact lk_delegate l hl9 Hq h hnL k2
    · skip
      refine gd_tableIn hC dL_law_39 3 hcs ⟨by decide, by decide⟩ (by decide) (by decide) rfl (tgt := 326) (by decide) ?_
      exact lk_whose l hl9 Hq h hnL k2
    · skip
      refine gd_tableIn hC dL_law_39 4 hcs ⟨by decide, by decide⟩ (by decide) (by decide) rfl (tgt := 394) (by decide) ?_
      exact lk_limit l hl9 Hq h hnL k2
    · skip
      refine gd_tableIn hC dL_law_39 5 hcs ⟨by decide, by decide⟩ (by decide) (by decide) rfl (tgt := 462) (by decide) ?_
      exact lk_act l hl9 Hq h hnL k2
    · skip
      refine gd_tableIn hC dL_law_39 6 hcs ⟨by decide, by decide⟩ (by decide) (by decide) rfl (tgt := 542) (by decide) ?_
      exact lk_court l hl9 Hq h hnL k2
    · skip
      refine gd_tableIn hC dL_law_39 7 hcs ⟨by decide, by decide⟩ (by decide) (by decide) rfl (tgt := 633) (by decide) ?_
      exact lk_waive l hl9 Hq h hnL k2
    · skip
      refine gd_tableIn hC dL_law_39 8 hcs ⟨by decide, by decide⟩ (by decide) (by decide) rfl (tgt := 724) (by decide) ?_
      exact lk_plea l hl9 Hq h hnL k2
    · skip
      refine gd_tableIn hC dL_law_39 9 hcs ⟨by decide, by decide⟩ (by decide) (by decide) rfl (tgt := 772) (by decide) ?_
      exact lk_bar l hl9 Hq h hnL k2
    · skip
      refine gd_tableIn hC dL_law_39 10 hcs ⟨by decide, by decide⟩ (by decide) (by decide) rfl (tgt := 840) (by decide) ?_
      exact lk_complain l hl9 Hq h hnL k2
    · skip
      refine gd_tableIn hC dL_law_39 11 hcs ⟨by decide, by decide⟩ (by decide) (by decide) rfl (tgt := 908) (by decide) ?_
      exact lk_ask l hl9 Hq h hnL k2
    · skip
      refine gd_tableIn hC dL_law_39 12 hcs ⟨by decide, by decide⟩ (by decide) (by decide) rfl (tgt := 964) (by decide) ?_
      exact lk_answer l hl9 Hq h hnL k2
    · skip
      refine gd_tableIn hC dL_law_39 13 hcs ⟨by decide, by decide⟩ (by decide) (by decide) rfl (tgt := 1020) (by decide) ?_
      exact lk_hear l hl9 Hq h hnL k2
    · skip
      refine gd_tableIn hC dL_law_39 14 hcs ⟨by decide, by decide⟩ (by decide) (by decide) rfl (tgt := 1056) (by decide) ?_
      exact lk_find l hl9 Hq h hnL k2
    · skip
      refine gd_tableIn hC dL_law_39 15 hcs ⟨by decide, by decide⟩ (by decide) (by decide) rfl (tgt := 1112) (by decide) ?_
      exact lk_remedy l hl9 Hq h hnL k2
    · skip
      refine gd_tableIn hC dL_law_39 16 hcs ⟨by decide, by decide⟩ (by decide) (by decide) rfl (tgt := 1180) (by decide) ?_
      exact lk_pass l hl9 Hq h hnL k2
    · skip
      refine gd_tableIn hC dL_law_39 17 hcs ⟨by decide, by decide⟩ (by decide) (by decide) rfl (tgt := 1236) (by decide) ?_
      exact lk_about l hl9 Hq h hnL k2
    · skip
      refine gd_tableIn hC dL_law_39 18 hcs ⟨by decide, by decide⟩ (by decide) (by decide) rfl (tgt := 1304) (by decide) ?_
      exact lk_reminder l hl9 Hq h hnL k2
    · skip
      refine gd_tableIn hC dL_law_39 19 hcs ⟨by decide, by decide⟩ (by decide) (by decide) rfl (tgt := 1360) (by decide) ?_
      exact lk_fault l hl9 Hq h hnL k2
    · skip
      refine gd_tableIn hC dL_law_39 20 hcs ⟨by decide, by decide⟩ (by decide) (by decide) rfl (tgt := 1416) (by decide) ?_
      exact lk_likes l hl9 Hq h hnL k2
    · skip
      refine gd_tableIn hC dL_law_39 21 hcs ⟨by decide, by decide⟩ (by decide) (by decide) rfl (tgt := 1472) (by decide) ?_
      exact lk_remedied l hl9 Hq h hnL k2
    · skip
      refine gd_tableIn hC dL_law_39 22 hcs ⟨by decide, by decide⟩ (by decide) (by decide) rfl (tgt := 1528) (by decide) ?_
      exact lk_gains l hl9 Hq h hnL k2
theorem lw_loop {p : Program} {e : Env} {s : State} {m : MethodId} {below : List Frame} {meth : Method} {c : Code} {b L : Nat} {xs : Nat → Int32} {G : zz_G} {Y : zz_Y} {a : Nat → Nat} (l : Launch) (hl9 : l.stackTraces = false) (Hq : zq_ p s m meth c b L xs G Y) : ∀ (f n : Nat) (S : zz_S), L < 4 * (n + f) → n ≤ 512 → zr_ S n → zg_ p l e s m b below meth c G a (20000 + 4 * n) S 23 (zv_ b a n) [] := by
  intro f
  induction f with
  | zero => exact fun n S h1 h2 h3 => lw_step l hl9 Hq h3 h2 (fun h4 => absurd h4 (by omega))
  | succ f ih => exact fun n S h1 h2 h3 => lw_step l hl9 Hq h3 h2 (fun h4 S2 h5 => ih (n + 1) S2 (by omega) (by have := Hq.2.2.2.2.1; omega) h5)
