/-! all that the law asks of a hall, as one number -/
def zy_a1 (S : zz_S) : Nat → Int
  | 0 => 17
  | j + 1 => (zy_a1 S j * 31 + zz_oo (S 4) (S 5) (S 6) (S 3 3).toNat (S 0 10) 10 (j : Int)) + 31 * zz_oo (S 4) (S 5) (S 6) (S 3 3).toNat (S 0 10 / 2) 10 (j : Int)
def zy_a2p (S : zz_S) (i : Nat) (h : Int) : Nat → Int
  | 0 => h
  | p + 1 => zy_a2p S i h p * 7 + zz_ba S i p (S 0 10)
def zy_a2 (S : zz_S) (h : Int) : Nat → Int
  | 0 => h
  | i + 1 => zy_a2p S i (((zy_a2 S h i * 31 + zz_ft S i) * 31 + zz_ln S i (S 0 7).toNat) * 1009 + S (13 + i) 7) 3
def zy_a3w (S : zz_S) (c : Nat) (h : Int) : Nat → Int
  | 0 => h
  | j + 1 => zy_a3w S c h j * 127 + zz_ab S c (j : Int)
def zy_a3 (S : zz_S) (h : Int) : Nat → Int
  | 0 => h
  | c + 1 => zy_a3w S c (zy_a3 S h c) 6 * 31 + zk_rem S c
def zy_a4 (S : zz_S) (h : Int) : Nat → Int
  | 0 => h
  | j + 1 => zy_a4 S h j * 127 + zz_gn S (j : Int) (17 * (j : Int)) (S 0 7).toNat
def zy_all (S : zz_S) : Int := zy_a4 S (zy_a3 S (zy_a2 S (zy_a1 S (S 0 3).toNat) (S 0 7).toNat) (S 0 9).toNat) 4
abbrev rm_L_all : Room := { frames := 8, cells := 480, slots := 2880, locals := 130 }
set_option maxHeartbeats 4000000 in
set_option maxRecDepth 100000 in
theorem c_L_all (l : Launch) (hl9 : l.stackTraces = false) (N0 : Nat) (G : zz_G) (Y : zz_Y) (a : Nat → Nat) (S : zz_S) (q ad : Nat) (D : Nat → Int) (hq : G.2.2[q]? = some (ad, .inl (G.2.1 0, 4, .inl (fun x => Int32.ofInt (D x))))) (hd : D 0 = S 0 3 ∧ D 1 = S 0 7 ∧ D 2 = S 0 9 ∧ D 3 = S 0 10) (hI : zz_IC S) : Ct_ l yL_all wsL_all rm_L_all 480 [.ref (a 0), .ref ad] N0 G Y a S (fun v S' => v = some (zz_l (zy_all S)) ∧ S' = S) (fun _ _ => False) := by
  refine Ct_.of (cc := cL_all) (maxL := 6) (ret := (some .long)) (by decide) rfl (Nat.le_of_ble_eq_true rfl) ?_
  intro p e s m args below meth c hC hts hr hlk hex hF
  have hK := hF.2.1
  have l112 : (Cond.constantLong RL 112 (Int64.ofInt 17)).before args s = true := hts _ (by decide +kernel)
  have l114 : (Cond.constantLong RL 114 (Int64.ofInt 31)).before args s = true := hts _ (by decide +kernel)
  have l116 : (Cond.constantLong RL 116 (Int64.ofInt 1009)).before args s = true := hts _ (by decide +kernel)
  have l118 : (Cond.constantLong RL 118 (Int64.ofInt 7)).before args s = true := hts _ (by decide +kernel)
  have l120 : (Cond.constantLong RL 120 (Int64.ofInt 127)).before args s = true := hts _ (by decide +kernel)
  obtain ⟨itc, ioc, iac, icc, itd, idc, ilc, iab, idv, iow, ikd, idy, ims, ihm, ict, iwv, irm, ipl, ian, ist, idl, ipe, ifi, ias, ihe, ifn, iod, ity⟩ := id hI
  refine gd_lveq (lv' := [(0, .ref (a 0)), (1, .ref ad)]) rfl ?_
  refine gd_ldc2 hC (n := 17) l112 dL_all_0 ?_
  refine gd_lstore_n hC dL_all_3 rfl (by decide) (lv' := [(2, zz_l 17), (0, .ref (a 0)), (1, .ref ad)]) rfl ?_
  refine gd_iconst hC dL_all_4 ?_
  refine gd_istore hC dL_all_5 (by decide) (lv' := [(4, zz_v 0), (2, zz_l 17), (0, .ref (a 0)), (1, .ref ad)]) rfl ?_
  refine gd_sub [2, 3, 1, 0] (lv' := [(0, .ref (a 0)), (1, .ref ad), (2, zz_l 17), (4, zz_v 0)]) rfl ?_
  refine gd_loopA (σ := Nat) (μ := fun vz => (S 0 3).toNat - vz) (I := fun vz => (vz ≤ (S 0 3).toNat)) (kf := fun vz => 4 * vz) (Sf := fun vz => S) (lf := fun vz => [(0, .ref (a 0)), (1, .ref ad), (2, zz_l (zy_a1 S vz)), (4, zz_v (vz : Int))]) 0 (Nat.zero_le _) rfl rfl rfl (fun j hJ9 ih7 => ?_)
  have hI0 : j ≤ (S 0 3).toNat := hJ9
  refine gd_lveq (lv' := [(0, .ref (a 0)), (1, .ref ad), (2, zz_l (zy_a1 S j)), (4, zz_v (j : Int))]) rfl ?_
  refine gd_eq (S' := S) rfl ?_
  refine gd_sup (k' := 4 * j) rfl ?_
  refine gd_iload hC dL_all_7 (j := 3) rfl ?_
  refine gd_aload_n hC dL_all_9 rfl (j := 1) rfl ?_
  refine gd_iconst hC dL_all_10 ?_
  refine gd_tald hC hK hq (j := 0) rfl (by decide) (by decide) dL_all_11 ?_
  refine gd_top (y := S 0 3) hd.1 ?_
  refine gd_icmp_ge hC dL_all_12 (tgt := 55) (by decide) ⟨by omega, by omega⟩ ⟨by omega, by omega⟩ (fun c1 => ?_) (fun c1 => ?_)
  · skip
    obtain rfl : j = (S 0 3).toNat := by omega
    refine gd_iconst hC dL_all_55 ?_
    refine gd_istore hC dL_all_56 (by decide) (lv' := [(4, zz_v 0), (0, .ref (a 0)), (1, .ref ad), (2, zz_l (zy_a1 S (S 0 3).toNat))]) rfl ?_
    refine gd_sub [1, 2, 3, 0] (lv' := [(0, .ref (a 0)), (1, .ref ad), (2, zz_l (zy_a1 S (S 0 3).toNat)), (4, zz_v 0)]) rfl ?_
    refine gd_loopA (σ := Nat) (μ := fun vz => (S 0 7).toNat - vz) (I := fun vz => (vz ≤ (S 0 7).toNat)) (kf := fun vz => 4 * (S 0 3).toNat + 9 * vz) (Sf := fun vz => S) (lf := fun vz => [(0, .ref (a 0)), (1, .ref ad), (2, zz_l (zy_a2 S (zy_a1 S (S 0 3).toNat) vz)), (4, zz_v (vz : Int))]) 0 (Nat.zero_le _) (show _ = 4 * (S 0 3).toNat + 9 * 0 by omega) rfl rfl (fun i hJ9 ih58 => ?_)
    have hI0 : i ≤ (S 0 7).toNat := hJ9
    refine gd_lveq (lv' := [(0, .ref (a 0)), (1, .ref ad), (2, zz_l (zy_a2 S (zy_a1 S (S 0 3).toNat) i)), (4, zz_v (i : Int))]) rfl ?_
    refine gd_eq (S' := S) rfl ?_
    refine gd_sup (k' := 4 * (S 0 3).toNat + 9 * i) rfl ?_
    refine gd_iload hC dL_all_58 (j := 3) rfl ?_
    refine gd_aload_n hC dL_all_60 rfl (j := 1) rfl ?_
    refine gd_iconst hC dL_all_61 ?_
    refine gd_tald hC hK hq (j := 1) rfl (by decide) (by decide) dL_all_62 ?_
    refine gd_top (y := S 0 7) hd.2.1 ?_
    refine gd_icmp_ge hC dL_all_63 (tgt := 141) (by decide) ⟨by omega, by omega⟩ ⟨by omega, by omega⟩ (fun c2 => ?_) (fun c2 => ?_)
    · skip
      obtain rfl : i = (S 0 7).toNat := by omega
      refine gd_iconst hC dL_all_141 ?_
      refine gd_istore hC dL_all_142 (by decide) (lv' := [(4, zz_v 0), (0, .ref (a 0)), (1, .ref ad), (2, zz_l (zy_a2 S (zy_a1 S (S 0 3).toNat) (S 0 7).toNat))]) rfl ?_
      refine gd_sub [1, 2, 3, 0] (lv' := [(0, .ref (a 0)), (1, .ref ad), (2, zz_l (zy_a2 S (zy_a1 S (S 0 3).toNat) (S 0 7).toNat)), (4, zz_v 0)]) rfl ?_
      refine gd_loopA (σ := Nat) (μ := fun vz => (S 0 9).toNat - vz) (I := fun vz => (vz ≤ (S 0 9).toNat)) (kf := fun vz => 4 * (S 0 3).toNat + 9 * (S 0 7).toNat + 13 * vz) (Sf := fun vz => S) (lf := fun vz => [(0, .ref (a 0)), (1, .ref ad), (2, zz_l (zy_a3 S (zy_a2 S (zy_a1 S (S 0 3).toNat) (S 0 7).toNat) vz)), (4, zz_v (vz : Int))]) 0 (Nat.zero_le _) (show _ = 4 * (S 0 3).toNat + 9 * (S 0 7).toNat + 13 * 0 by omega) rfl rfl (fun co hJ9 ih144 => ?_)
      have hI0 : co ≤ (S 0 9).toNat := hJ9
      refine gd_lveq (lv' := [(0, .ref (a 0)), (1, .ref ad), (2, zz_l (zy_a3 S (zy_a2 S (zy_a1 S (S 0 3).toNat) (S 0 7).toNat) co)), (4, zz_v (co : Int))]) rfl ?_
      refine gd_eq (S' := S) rfl ?_
      refine gd_sup (k' := 4 * (S 0 3).toNat + 9 * (S 0 7).toNat + 13 * co) rfl ?_
      refine gd_iload hC dL_all_144 (j := 3) rfl ?_
      refine gd_aload_n hC dL_all_146 rfl (j := 1) rfl ?_
      refine gd_iconst hC dL_all_147 ?_
      refine gd_tald hC hK hq (j := 2) rfl (by decide) (by decide) dL_all_148 ?_
      refine gd_top (y := S 0 9) hd.2.2.1 ?_
      refine gd_icmp_ge hC dL_all_149 (tgt := 204) (by decide) ⟨by omega, by omega⟩ ⟨by omega, by omega⟩ (fun c3 => ?_) (fun c3 => ?_)
      · skip
        obtain rfl : co = (S 0 9).toNat := by omega
        refine gd_iconst hC dL_all_204 ?_
        refine gd_istore hC dL_all_205 (by decide) (lv' := [(4, zz_v 0), (0, .ref (a 0)), (1, .ref ad), (2, zz_l (zy_a3 S (zy_a2 S (zy_a1 S (S 0 3).toNat) (S 0 7).toNat) (S 0 9).toNat))]) rfl ?_
        refine gd_sub [1, 2, 3, 0] (lv' := [(0, .ref (a 0)), (1, .ref ad), (2, zz_l (zy_a3 S (zy_a2 S (zy_a1 S (S 0 3).toNat) (S 0 7).toNat) (S 0 9).toNat)), (4, zz_v 0)]) rfl ?_
        refine gd_loopA (σ := Nat) (μ := fun vz => 4 - vz) (I := fun vz => (vz ≤ 4)) (kf := fun vz => 4 * (S 0 3).toNat + 9 * (S 0 7).toNat + 13 * (S 0 9).toNat + 2 * vz) (Sf := fun vz => S) (lf := fun vz => [(0, .ref (a 0)), (1, .ref ad), (2, zz_l (zy_a4 S (zy_a3 S (zy_a2 S (zy_a1 S (S 0 3).toNat) (S 0 7).toNat) (S 0 9).toNat) vz)), (4, zz_v (vz : Int))]) 0 (Nat.zero_le _) (show _ = 4 * (S 0 3).toNat + 9 * (S 0 7).toNat + 13 * (S 0 9).toNat + 2 * 0 by omega) rfl rfl (fun t hJ9 ih207 => ?_)
        have hI0 : t ≤ 4 := hJ9
        refine gd_lveq (lv' := [(0, .ref (a 0)), (1, .ref ad), (2, zz_l (zy_a4 S (zy_a3 S (zy_a2 S (zy_a1 S (S 0 3).toNat) (S 0 7).toNat) (S 0 9).toNat) t)), (4, zz_v (t : Int))]) rfl ?_
        refine gd_eq (S' := S) rfl ?_
        refine gd_sup (k' := 4 * (S 0 3).toNat + 9 * (S 0 7).toNat + 13 * (S 0 9).toNat + 2 * t) rfl ?_
        refine gd_iload hC dL_all_207 (j := 3) rfl ?_
        refine gd_iconst hC dL_all_209 ?_
        refine gd_icmp_ge hC dL_all_210 (tgt := 238) (by decide) ⟨by omega, by omega⟩ ⟨by decide, by decide⟩ (fun c4 => ?_) (fun c4 => ?_)
        · skip
          obtain rfl : t = 4 := by omega
          refine gd_lload_n hC dL_all_238 rfl (j := 2) rfl ?_
          exact gd_lreturn hC hr hlk dL_all_239 (show _ ≤ 480 by omega) ⟨rfl, rfl⟩
        · skip
          refine gd_lload_n hC dL_all_213 rfl (j := 2) rfl ?_
          refine gd_ldc2 hC (n := 127) l120 dL_all_214 ?_
          refine gd_lmul hC dL_all_217 ?_
          refine gd_aload_n hC dL_all_218 rfl (j := 0) rfl ?_
          refine gd_iload hC dL_all_219 (j := 3) rfl ?_
          refine gd_bipush hC dL_all_221 rfl ?_
          refine gd_iload hC dL_all_223 (j := 3) rfl ?_
          refine gd_imul hC dL_all_225 ?_
          refine gd_ask (As := [zz_v (t : Int), zz_v (17 * (t : Int))]) (rest := [zz_l ((zy_a4 S (zy_a3 S (zy_a2 S (zy_a1 S (S 0 3).toNat) (S 0 7).toNat) (S 0 9).toNat) t) * 127)]) hC hF (fun hR => c_X3_gains l hl9 N0 G Y a S (t : Int) (17 * (t : Int)) ⟨by omega, by omega⟩ ⟨by omega, by omega⟩ hI) (by refine ⟨?_, ?_, ?_⟩ <;> first | omega | exact fun z => z) (cwV 2 hts gL_all_X3_gains rfl rfl rfl (by decide +kernel) ⟨by decide, by decide⟩) rfl rfl (Nat.le_of_ble_eq_true rfl) dL_all_226 ⟨show _ ≤ 480 by omega, show _ ≤ 2880 by omega⟩ (fun _ q226 => ?_)
          refine gd_i2l hC q226 dL_all_229 ?_
          refine gd_ladd hC dL_all_230 ?_
          refine gd_lstore_n hC dL_all_231 rfl (by decide) (lv' := [(2, zz_l (((zy_a4 S (zy_a3 S (zy_a2 S (zy_a1 S (S 0 3).toNat) (S 0 7).toNat) (S 0 9).toNat) t) * 127) + (zz_gn S (t : Int) (17 * (t : Int)) (S 0 7).toNat))), (0, .ref (a 0)), (1, .ref ad), (4, zz_v (t : Int))]) rfl ?_
          refine gd_iinc hC dL_all_232 (j := 3) rfl (y := ((t + 1 : Nat) : Int)) (by omega) (by decide) (lv' := [(4, zz_v ((t + 1 : Nat) : Int)), (2, zz_l (((zy_a4 S (zy_a3 S (zy_a2 S (zy_a1 S (S 0 3).toNat) (S 0 7).toNat) (S 0 9).toNat) t) * 127) + (zz_gn S (t : Int) (17 * (t : Int)) (S 0 7).toNat))), (0, .ref (a 0)), (1, .ref ad)]) rfl ?_
          refine gd_goto hC dL_all_235 (tgt := 207) (by decide) ?_
          refine gd_sub [2, 3, 1, 0] (lv' := [(0, .ref (a 0)), (1, .ref ad), (2, zz_l (((zy_a4 S (zy_a3 S (zy_a2 S (zy_a1 S (S 0 3).toNat) (S 0 7).toNat) (S 0 9).toNat) t) * 127) + (zz_gn S (t : Int) (17 * (t : Int)) (S 0 7).toNat))), (4, zz_v ((t + 1 : Nat) : Int))]) rfl ?_
          refine gd_lveq (lv' := [(0, .ref (a 0)), (1, .ref ad), (2, zz_l (zy_a4 S (zy_a3 S (zy_a2 S (zy_a1 S (S 0 3).toNat) (S 0 7).toNat) (S 0 9).toNat) (t + 1))), (4, zz_v (((t + 1) : Nat) : Int))]) rfl ?_
          refine gd_sup (k' := 4 * (S 0 3).toNat + 9 * (S 0 7).toNat + 13 * (S 0 9).toNat + 2 * (t + 1)) (by omega) ?_
          exact ih207 (t + 1) (by omega) (show 4 - (t + 1) < 4 - t by omega)
      · skip
        refine gd_iconst hC dL_all_152 ?_
        refine gd_istore hC dL_all_153 (by decide) (lv' := [(5, zz_v 0), (0, .ref (a 0)), (1, .ref ad), (2, zz_l (zy_a3 S (zy_a2 S (zy_a1 S (S 0 3).toNat) (S 0 7).toNat) co)), (4, zz_v (co : Int))]) rfl ?_
        refine gd_sub [1, 2, 3, 4, 0] (lv' := [(0, .ref (a 0)), (1, .ref ad), (2, zz_l (zy_a3 S (zy_a2 S (zy_a1 S (S 0 3).toNat) (S 0 7).toNat) co)), (4, zz_v (co : Int)), (5, zz_v 0)]) rfl ?_
        refine gd_loopA (σ := Nat) (μ := fun vz => 6 - vz) (I := fun vz => (vz ≤ 6)) (kf := fun vz => 4 * (S 0 3).toNat + 9 * (S 0 7).toNat + 13 * co + 2 * vz) (Sf := fun vz => S) (lf := fun vz => [(0, .ref (a 0)), (1, .ref ad), (2, zz_l (zy_a3w S co (zy_a3 S (zy_a2 S (zy_a1 S (S 0 3).toNat) (S 0 7).toNat) co) vz)), (4, zz_v (co : Int)), (5, zz_v (vz : Int))]) 0 (Nat.zero_le _) (show _ = 4 * (S 0 3).toNat + 9 * (S 0 7).toNat + 13 * co + 2 * 0 by omega) rfl rfl (fun g hJ9 ih155 => ?_)
        have hI0 : g ≤ 6 := hJ9
        refine gd_lveq (lv' := [(0, .ref (a 0)), (1, .ref ad), (2, zz_l (zy_a3w S co (zy_a3 S (zy_a2 S (zy_a1 S (S 0 3).toNat) (S 0 7).toNat) co) g)), (4, zz_v (co : Int)), (5, zz_v (g : Int))]) rfl ?_
        refine gd_eq (S' := S) rfl ?_
        refine gd_sup (k' := 4 * (S 0 3).toNat + 9 * (S 0 7).toNat + 13 * co + 2 * g) rfl ?_
        refine gd_iload hC dL_all_155 (j := 4) rfl ?_
        refine gd_bipush hC dL_all_157 rfl ?_
        refine gd_icmp_ge hC dL_all_159 (tgt := 184) (by decide) ⟨by omega, by omega⟩ ⟨by decide, by decide⟩ (fun c5 => ?_) (fun c5 => ?_)
        · skip
          obtain rfl : g = 6 := by omega
          refine gd_lload_n hC dL_all_184 rfl (j := 2) rfl ?_
          refine gd_ldc2 hC (n := 31) l114 dL_all_185 ?_
          refine gd_lmul hC dL_all_188 ?_
          refine gd_aload_n hC dL_all_189 rfl (j := 0) rfl ?_
          refine gd_iload hC dL_all_190 (j := 3) rfl ?_
          refine gd_ask (As := [zz_v (co : Int)]) (rest := [zz_l ((zy_a3w S co (zy_a3 S (zy_a2 S (zy_a1 S (S 0 3).toNat) (S 0 7).toNat) co) 6) * 31)]) hC hF (fun hR => c_X3_reminder l hl9 N0 G Y a S (co : Int) ⟨by omega, by omega⟩ hI) (by refine ⟨?_, ?_, ?_⟩ <;> first | omega | exact fun z => z) (cwV 1 hts gL_all_X3_reminder rfl rfl rfl (by decide +kernel) ⟨by decide, by decide⟩) rfl rfl (Nat.le_of_ble_eq_true rfl) dL_all_192 ⟨show _ ≤ 480 by omega, show _ ≤ 2880 by omega⟩ (fun _ q192 => ?_)
          have q192n : zz_R (zk_rem S co) := q192
          refine gd_top (y := zk_rem S co) rfl ?_
          refine gd_i2l hC q192n dL_all_195 ?_
          refine gd_ladd hC dL_all_196 ?_
          refine gd_lstore_n hC dL_all_197 rfl (by decide) (lv' := [(2, zz_l (((zy_a3w S co (zy_a3 S (zy_a2 S (zy_a1 S (S 0 3).toNat) (S 0 7).toNat) co) 6) * 31) + (zk_rem S co))), (0, .ref (a 0)), (1, .ref ad), (4, zz_v (co : Int)), (5, zz_v (6 : Int))]) rfl ?_
          refine gd_iinc hC dL_all_198 (j := 3) rfl (y := ((co + 1 : Nat) : Int)) (by omega) (by decide) (lv' := [(4, zz_v ((co + 1 : Nat) : Int)), (2, zz_l (((zy_a3w S co (zy_a3 S (zy_a2 S (zy_a1 S (S 0 3).toNat) (S 0 7).toNat) co) 6) * 31) + (zk_rem S co))), (0, .ref (a 0)), (1, .ref ad), (5, zz_v (6 : Int))]) rfl ?_
          refine gd_goto hC dL_all_201 (tgt := 144) (by decide) ?_
          refine gd_sub [2, 3, 1, 0] (lv' := [(0, .ref (a 0)), (1, .ref ad), (2, zz_l (((zy_a3w S co (zy_a3 S (zy_a2 S (zy_a1 S (S 0 3).toNat) (S 0 7).toNat) co) 6) * 31) + (zk_rem S co))), (4, zz_v ((co + 1 : Nat) : Int))]) rfl ?_
          refine gd_lveq (lv' := [(0, .ref (a 0)), (1, .ref ad), (2, zz_l (zy_a3 S (zy_a2 S (zy_a1 S (S 0 3).toNat) (S 0 7).toNat) (co + 1))), (4, zz_v (((co + 1) : Nat) : Int))]) rfl ?_
          refine gd_sup (k' := 4 * (S 0 3).toNat + 9 * (S 0 7).toNat + 13 * (co + 1)) (by omega) ?_
          exact ih144 (co + 1) (by omega) (show (S 0 9).toNat - (co + 1) < (S 0 9).toNat - co by omega)
        · skip
          refine gd_lload_n hC dL_all_162 rfl (j := 2) rfl ?_
          refine gd_ldc2 hC (n := 127) l120 dL_all_163 ?_
          refine gd_lmul hC dL_all_166 ?_
          refine gd_aload_n hC dL_all_167 rfl (j := 0) rfl ?_
          refine gd_iload hC dL_all_168 (j := 3) rfl ?_
          refine gd_iload hC dL_all_170 (j := 4) rfl ?_
          refine gd_ask (As := [zz_v (co : Int), zz_v (g : Int)]) (rest := [zz_l ((zy_a3w S co (zy_a3 S (zy_a2 S (zy_a1 S (S 0 3).toNat) (S 0 7).toNat) co) g) * 127)]) hC hF (fun hR => c_X3_about l hl9 N0 G Y a S (co : Int) (g : Int) ⟨by omega, by omega⟩ ⟨by omega, by omega⟩ hI) (by refine ⟨?_, ?_, ?_⟩ <;> first | omega | exact fun z => z) (cwV 2 hts gL_all_X3_about rfl rfl rfl (by decide +kernel) ⟨by decide, by decide⟩) rfl rfl (Nat.le_of_ble_eq_true rfl) dL_all_172 ⟨show _ ≤ 480 by omega, show _ ≤ 2880 by omega⟩ (fun _ q172 => ?_)
          have q172n : zz_R (zz_ab S co (g : Int)) := q172
          refine gd_top (y := zz_ab S co (g : Int)) rfl ?_
          refine gd_i2l hC q172n dL_all_175 ?_
          refine gd_ladd hC dL_all_176 ?_
          refine gd_lstore_n hC dL_all_177 rfl (by decide) (lv' := [(2, zz_l (((zy_a3w S co (zy_a3 S (zy_a2 S (zy_a1 S (S 0 3).toNat) (S 0 7).toNat) co) g) * 127) + (zz_ab S co (g : Int)))), (0, .ref (a 0)), (1, .ref ad), (4, zz_v (co : Int)), (5, zz_v (g : Int))]) rfl ?_
          refine gd_iinc hC dL_all_178 (j := 4) rfl (y := ((g + 1 : Nat) : Int)) (by omega) (by decide) (lv' := [(5, zz_v ((g + 1 : Nat) : Int)), (2, zz_l (((zy_a3w S co (zy_a3 S (zy_a2 S (zy_a1 S (S 0 3).toNat) (S 0 7).toNat) co) g) * 127) + (zz_ab S co (g : Int)))), (0, .ref (a 0)), (1, .ref ad), (4, zz_v (co : Int))]) rfl ?_
          refine gd_goto hC dL_all_181 (tgt := 155) (by decide) ?_
          refine gd_sub [2, 3, 1, 4, 0] (lv' := [(0, .ref (a 0)), (1, .ref ad), (2, zz_l (((zy_a3w S co (zy_a3 S (zy_a2 S (zy_a1 S (S 0 3).toNat) (S 0 7).toNat) co) g) * 127) + (zz_ab S co (g : Int)))), (4, zz_v (co : Int)), (5, zz_v ((g + 1 : Nat) : Int))]) rfl ?_
          refine gd_lveq (lv' := [(0, .ref (a 0)), (1, .ref ad), (2, zz_l (zy_a3w S co (zy_a3 S (zy_a2 S (zy_a1 S (S 0 3).toNat) (S 0 7).toNat) co) (g + 1))), (4, zz_v (co : Int)), (5, zz_v (((g + 1) : Nat) : Int))]) rfl ?_
          refine gd_sup (k' := 4 * (S 0 3).toNat + 9 * (S 0 7).toNat + 13 * co + 2 * (g + 1)) (by omega) ?_
          exact ih155 (g + 1) (by omega) (show 6 - (g + 1) < 6 - g by omega)
    · skip
      refine gd_lload_n hC dL_all_66 rfl (j := 2) rfl ?_
      refine gd_ldc2 hC (n := 31) l114 dL_all_67 ?_
      refine gd_lmul hC dL_all_70 ?_
      refine gd_aload_n hC dL_all_71 rfl (j := 0) rfl ?_
      refine gd_iload hC dL_all_72 (j := 3) rfl ?_
      refine gd_ask (As := [zz_v (i : Int)]) (rest := [zz_l ((zy_a2 S (zy_a1 S (S 0 3).toNat) i) * 31)]) hC hF (fun hR => c_X3_fault l hl9 N0 G Y a S (i : Int) ⟨by omega, by omega⟩ hI) (by refine ⟨?_, ?_, ?_⟩ <;> first | omega | exact fun z => z) (cwV 1 hts gL_all_X3_fault rfl rfl rfl (by decide +kernel) ⟨by decide, by decide⟩) rfl rfl (Nat.le_of_ble_eq_true rfl) dL_all_74 ⟨show _ ≤ 480 by omega, show _ ≤ 2880 by omega⟩ (fun _ q74 => ?_)
      have q74n : zz_R (zz_ft S i) := q74
      refine gd_top (y := zz_ft S i) rfl ?_
      refine gd_i2l hC q74n dL_all_77 ?_
      refine gd_ladd hC dL_all_78 ?_
      refine gd_ldc2 hC (n := 31) l114 dL_all_79 ?_
      refine gd_lmul hC dL_all_82 ?_
      refine gd_aload_n hC dL_all_83 rfl (j := 0) rfl ?_
      refine gd_iload hC dL_all_84 (j := 3) rfl ?_
      refine gd_ask (As := [zz_v (i : Int)]) (rest := [zz_l ((((zy_a2 S (zy_a1 S (S 0 3).toNat) i) * 31) + (zz_ft S i)) * 31)]) hC hF (fun hR => c_X3_likes l hl9 N0 G Y a S (i : Int) ⟨by omega, by omega⟩ hI) (by refine ⟨?_, ?_, ?_⟩ <;> first | omega | exact fun z => z) (cwV 1 hts gL_all_X3_likes rfl rfl rfl (by decide +kernel) ⟨by decide, by decide⟩) rfl rfl (Nat.le_of_ble_eq_true rfl) dL_all_86 ⟨show _ ≤ 480 by omega, show _ ≤ 2880 by omega⟩ (fun _ q86 => ?_)
      have q86n : zz_R (zz_ln S i (S 0 7).toNat) := q86
      refine gd_top (y := zz_ln S i (S 0 7).toNat) rfl ?_
      refine gd_i2l hC q86n dL_all_89 ?_
      refine gd_ladd hC dL_all_90 ?_
      refine gd_ldc2 hC (n := 1009) l116 dL_all_91 ?_
      refine gd_lmul hC dL_all_94 ?_
      refine gd_aload_n hC dL_all_95 rfl (j := 0) rfl ?_
      refine gd_iload hC dL_all_96 (j := 3) rfl ?_
      refine gd_ask (As := [zz_v (i : Int)]) (rest := [zz_l ((((((zy_a2 S (zy_a1 S (S 0 3).toNat) i) * 31) + (zz_ft S i)) * 31) + (zz_ln S i (S 0 7).toNat)) * 1009)]) hC hF (fun hR => c_X3_remedied l hl9 N0 G Y a S (i : Int) ⟨by omega, by omega⟩ hI) (by refine ⟨?_, ?_, ?_⟩ <;> first | omega | exact fun z => z) (cwV 1 hts gL_all_X3_remedied rfl rfl rfl (by decide +kernel) ⟨by decide, by decide⟩) rfl rfl (Nat.le_of_ble_eq_true rfl) dL_all_98 ⟨show _ ≤ 480 by omega, show _ ≤ 2880 by omega⟩ (fun _ q98 => ?_)
      have q98n : zz_R (S (13 + i) 7) := q98
      refine gd_top (y := S (13 + i) 7) rfl ?_
      refine gd_i2l hC q98n dL_all_101 ?_
      refine gd_ladd hC dL_all_102 ?_
      refine gd_lstore_n hC dL_all_103 rfl (by decide) (lv' := [(2, zz_l (((((((zy_a2 S (zy_a1 S (S 0 3).toNat) i) * 31) + (zz_ft S i)) * 31) + (zz_ln S i (S 0 7).toNat)) * 1009) + (S (13 + i) 7))), (0, .ref (a 0)), (1, .ref ad), (4, zz_v (i : Int))]) rfl ?_
      refine gd_iconst hC dL_all_104 ?_
      refine gd_istore hC dL_all_105 (by decide) (lv' := [(5, zz_v 0), (2, zz_l (((((((zy_a2 S (zy_a1 S (S 0 3).toNat) i) * 31) + (zz_ft S i)) * 31) + (zz_ln S i (S 0 7).toNat)) * 1009) + (S (13 + i) 7))), (0, .ref (a 0)), (1, .ref ad), (4, zz_v (i : Int))]) rfl ?_
      refine gd_sub [2, 3, 1, 4, 0] (lv' := [(0, .ref (a 0)), (1, .ref ad), (2, zz_l (((((((zy_a2 S (zy_a1 S (S 0 3).toNat) i) * 31) + (zz_ft S i)) * 31) + (zz_ln S i (S 0 7).toNat)) * 1009) + (S (13 + i) 7))), (4, zz_v (i : Int)), (5, zz_v 0)]) rfl ?_
      refine gd_loopA (σ := Nat) (μ := fun vz => 3 - vz) (I := fun vz => (vz ≤ 3)) (kf := fun vz => 4 * (S 0 3).toNat + 9 * i + 3 + 2 * vz) (Sf := fun vz => S) (lf := fun vz => [(0, .ref (a 0)), (1, .ref ad), (2, zz_l (zy_a2p S i (((zy_a2 S (zy_a1 S (S 0 3).toNat) i * 31 + zz_ft S i) * 31 + zz_ln S i (S 0 7).toNat) * 1009 + S (13 + i) 7) vz)), (4, zz_v (i : Int)), (5, zz_v (vz : Int))]) 0 (Nat.zero_le _) (show _ = 4 * (S 0 3).toNat + 9 * i + 3 + 2 * 0 by omega) rfl rfl (fun pe hJ9 ih107 => ?_)
      have hI0 : pe ≤ 3 := hJ9
      refine gd_lveq (lv' := [(0, .ref (a 0)), (1, .ref ad), (2, zz_l (zy_a2p S i (((zy_a2 S (zy_a1 S (S 0 3).toNat) i * 31 + zz_ft S i) * 31 + zz_ln S i (S 0 7).toNat) * 1009 + S (13 + i) 7) pe)), (4, zz_v (i : Int)), (5, zz_v (pe : Int))]) rfl ?_
      refine gd_eq (S' := S) rfl ?_
      refine gd_sup (k' := 4 * (S 0 3).toNat + 9 * i + 3 + 2 * pe) rfl ?_
      refine gd_iload hC dL_all_107 (j := 4) rfl ?_
      refine gd_iconst hC dL_all_109 ?_
      refine gd_icmp_ge hC dL_all_110 (tgt := 135) (by decide) ⟨by omega, by omega⟩ ⟨by decide, by decide⟩ (fun c6 => ?_) (fun c6 => ?_)
      · skip
        obtain rfl : pe = 3 := by omega
        refine gd_iinc hC dL_all_135 (j := 3) rfl (y := ((i + 1 : Nat) : Int)) (by omega) (by decide) (lv' := [(4, zz_v ((i + 1 : Nat) : Int)), (0, .ref (a 0)), (1, .ref ad), (2, zz_l (zy_a2p S i (((zy_a2 S (zy_a1 S (S 0 3).toNat) i * 31 + zz_ft S i) * 31 + zz_ln S i (S 0 7).toNat) * 1009 + S (13 + i) 7) 3)), (5, zz_v (3 : Int))]) rfl ?_
        refine gd_goto hC dL_all_138 (tgt := 58) (by decide) ?_
        refine gd_sub [1, 2, 3, 0] (lv' := [(0, .ref (a 0)), (1, .ref ad), (2, zz_l (zy_a2p S i (((zy_a2 S (zy_a1 S (S 0 3).toNat) i * 31 + zz_ft S i) * 31 + zz_ln S i (S 0 7).toNat) * 1009 + S (13 + i) 7) 3)), (4, zz_v ((i + 1 : Nat) : Int))]) rfl ?_
        refine gd_lveq (lv' := [(0, .ref (a 0)), (1, .ref ad), (2, zz_l (zy_a2 S (zy_a1 S (S 0 3).toNat) (i + 1))), (4, zz_v (((i + 1) : Nat) : Int))]) rfl ?_
        refine gd_sup (k' := 4 * (S 0 3).toNat + 9 * (i + 1)) (by omega) ?_
        exact ih58 (i + 1) (by omega) (show (S 0 7).toNat - (i + 1) < (S 0 7).toNat - i by omega)
      · skip
        refine gd_lload_n hC dL_all_113 rfl (j := 2) rfl ?_
        refine gd_ldc2 hC (n := 7) l118 dL_all_114 ?_
        refine gd_lmul hC dL_all_117 ?_
        refine gd_aload_n hC dL_all_118 rfl (j := 0) rfl ?_
        refine gd_iload hC dL_all_119 (j := 4) rfl ?_
        refine gd_iload hC dL_all_121 (j := 3) rfl ?_
        refine gd_ask (As := [zz_v (pe : Int), zz_v (i : Int)]) (rest := [zz_l ((zy_a2p S i (((zy_a2 S (zy_a1 S (S 0 3).toNat) i * 31 + zz_ft S i) * 31 + zz_ln S i (S 0 7).toNat) * 1009 + S (13 + i) 7) pe) * 7)]) hC hF (fun hR => c_X3_bar l hl9 N0 G Y a S (pe : Int) (i : Int) ⟨by omega, by omega⟩ ⟨by omega, by omega⟩ hI) (by refine ⟨?_, ?_, ?_⟩ <;> first | omega | exact fun z => z) (cwV 2 hts gL_all_X3_bar rfl rfl rfl (by decide +kernel) ⟨by decide, by decide⟩) rfl rfl (Nat.le_of_ble_eq_true rfl) dL_all_123 ⟨show _ ≤ 480 by omega, show _ ≤ 2880 by omega⟩ (fun _ q123 => ?_)
        have q123n : zz_R (zz_ba S i pe (S 0 10)) := q123
        refine gd_top (y := zz_ba S i pe (S 0 10)) rfl ?_
        refine gd_i2l hC q123n dL_all_126 ?_
        refine gd_ladd hC dL_all_127 ?_
        refine gd_lstore_n hC dL_all_128 rfl (by decide) (lv' := [(2, zz_l (((zy_a2p S i (((zy_a2 S (zy_a1 S (S 0 3).toNat) i * 31 + zz_ft S i) * 31 + zz_ln S i (S 0 7).toNat) * 1009 + S (13 + i) 7) pe) * 7) + (zz_ba S i pe (S 0 10)))), (0, .ref (a 0)), (1, .ref ad), (4, zz_v (i : Int)), (5, zz_v (pe : Int))]) rfl ?_
        refine gd_iinc hC dL_all_129 (j := 4) rfl (y := ((pe + 1 : Nat) : Int)) (by omega) (by decide) (lv' := [(5, zz_v ((pe + 1 : Nat) : Int)), (2, zz_l (((zy_a2p S i (((zy_a2 S (zy_a1 S (S 0 3).toNat) i * 31 + zz_ft S i) * 31 + zz_ln S i (S 0 7).toNat) * 1009 + S (13 + i) 7) pe) * 7) + (zz_ba S i pe (S 0 10)))), (0, .ref (a 0)), (1, .ref ad), (4, zz_v (i : Int))]) rfl ?_
        refine gd_goto hC dL_all_132 (tgt := 107) (by decide) ?_
        refine gd_sub [2, 3, 1, 4, 0] (lv' := [(0, .ref (a 0)), (1, .ref ad), (2, zz_l (((zy_a2p S i (((zy_a2 S (zy_a1 S (S 0 3).toNat) i * 31 + zz_ft S i) * 31 + zz_ln S i (S 0 7).toNat) * 1009 + S (13 + i) 7) pe) * 7) + (zz_ba S i pe (S 0 10)))), (4, zz_v (i : Int)), (5, zz_v ((pe + 1 : Nat) : Int))]) rfl ?_
        refine gd_lveq (lv' := [(0, .ref (a 0)), (1, .ref ad), (2, zz_l (zy_a2p S i (((zy_a2 S (zy_a1 S (S 0 3).toNat) i * 31 + zz_ft S i) * 31 + zz_ln S i (S 0 7).toNat) * 1009 + S (13 + i) 7) (pe + 1))), (4, zz_v (i : Int)), (5, zz_v (((pe + 1) : Nat) : Int))]) rfl ?_
        refine gd_sup (k' := 4 * (S 0 3).toNat + 9 * i + 3 + 2 * (pe + 1)) (by omega) ?_
        exact ih107 (pe + 1) (by omega) (show 3 - (pe + 1) < 3 - pe by omega)
  · skip
    refine gd_lload_n hC dL_all_15 rfl (j := 2) rfl ?_
    refine gd_ldc2 hC (n := 31) l114 dL_all_16 ?_
    refine gd_lmul hC dL_all_19 ?_
    refine gd_aload_n hC dL_all_20 rfl (j := 0) rfl ?_
    refine gd_iload hC dL_all_21 (j := 3) rfl ?_
    refine gd_aload_n hC dL_all_23 rfl (j := 1) rfl ?_
    refine gd_iconst hC dL_all_24 ?_
    refine gd_tald hC hK hq (j := 3) rfl (by decide) (by decide) dL_all_25 ?_
    refine gd_top (y := S 0 10) hd.2.2.2 ?_
    refine gd_ask (As := [zz_v (j : Int), zz_v (S 0 10)]) (rest := [zz_l ((zy_a1 S j) * 31)]) hC hF (fun hR => c_X3_whose l hl9 N0 G Y a S (j : Int) (S 0 10) ⟨by omega, by omega⟩ ⟨by omega, by omega⟩ hI) (by refine ⟨?_, ?_, ?_⟩ <;> first | omega | exact fun z => z) (cwV 2 hts gL_all_X3_whose rfl rfl rfl (by decide +kernel) ⟨by decide, by decide⟩) rfl rfl (Nat.le_of_ble_eq_true rfl) dL_all_26 ⟨show _ ≤ 480 by omega, show _ ≤ 2880 by omega⟩ (fun _ q26 => ?_)
    refine gd_i2l hC q26 dL_all_29 ?_
    refine gd_ladd hC dL_all_30 ?_
    refine gd_ldc2 hC (n := 31) l114 dL_all_31 ?_
    refine gd_aload_n hC dL_all_34 rfl (j := 0) rfl ?_
    refine gd_iload hC dL_all_35 (j := 3) rfl ?_
    refine gd_aload_n hC dL_all_37 rfl (j := 1) rfl ?_
    refine gd_iconst hC dL_all_38 ?_
    refine gd_tald hC hK hq (j := 3) rfl (by decide) (by decide) dL_all_39 ?_
    refine gd_top (y := S 0 10) hd.2.2.2 ?_
    refine gd_iconst hC dL_all_40 ?_
    refine gd_idiv hC dL_all_41 ⟨by omega, by omega⟩ ⟨by omega, by omega⟩ ?_
    refine gd_ask (As := [zz_v (j : Int), zz_v ((S 0 10) / 2)]) (rest := [zz_l 31, zz_l (((zy_a1 S j) * 31) + (zz_oo (S 4) (S 5) (S 6) (S 3 3).toNat (S 0 10) 10 (j : Int)))]) hC hF (fun hR => c_X3_whose l hl9 N0 G Y a S (j : Int) ((S 0 10) / 2) ⟨by omega, by omega⟩ ⟨by omega, by omega⟩ hI) (by refine ⟨?_, ?_, ?_⟩ <;> first | omega | exact fun z => z) (cwV 2 hts gL_all_X3_whose rfl rfl rfl (by decide +kernel) ⟨by decide, by decide⟩) rfl rfl (Nat.le_of_ble_eq_true rfl) dL_all_42 ⟨show _ ≤ 480 by omega, show _ ≤ 2880 by omega⟩ (fun _ q42 => ?_)
    refine gd_i2l hC q42 dL_all_45 ?_
    refine gd_lmul hC dL_all_46 ?_
    refine gd_ladd hC dL_all_47 ?_
    refine gd_lstore_n hC dL_all_48 rfl (by decide) (lv' := [(2, zz_l ((((zy_a1 S j) * 31) + (zz_oo (S 4) (S 5) (S 6) (S 3 3).toNat (S 0 10) 10 (j : Int))) + (31 * (zz_oo (S 4) (S 5) (S 6) (S 3 3).toNat ((S 0 10) / 2) 10 (j : Int))))), (0, .ref (a 0)), (1, .ref ad), (4, zz_v (j : Int))]) rfl ?_
    refine gd_iinc hC dL_all_49 (j := 3) rfl (y := ((j + 1 : Nat) : Int)) (by omega) (by decide) (lv' := [(4, zz_v ((j + 1 : Nat) : Int)), (2, zz_l ((((zy_a1 S j) * 31) + (zz_oo (S 4) (S 5) (S 6) (S 3 3).toNat (S 0 10) 10 (j : Int))) + (31 * (zz_oo (S 4) (S 5) (S 6) (S 3 3).toNat ((S 0 10) / 2) 10 (j : Int))))), (0, .ref (a 0)), (1, .ref ad)]) rfl ?_
    refine gd_goto hC dL_all_52 (tgt := 7) (by decide) ?_
    refine gd_sub [2, 3, 1, 0] (lv' := [(0, .ref (a 0)), (1, .ref ad), (2, zz_l ((((zy_a1 S j) * 31) + (zz_oo (S 4) (S 5) (S 6) (S 3 3).toNat (S 0 10) 10 (j : Int))) + (31 * (zz_oo (S 4) (S 5) (S 6) (S 3 3).toNat ((S 0 10) / 2) 10 (j : Int))))), (4, zz_v ((j + 1 : Nat) : Int))]) rfl ?_
    refine gd_lveq (lv' := [(0, .ref (a 0)), (1, .ref ad), (2, zz_l (zy_a1 S (j + 1))), (4, zz_v (((j + 1) : Nat) : Int))]) rfl ?_
    refine gd_sup (k' := 4 * (j + 1)) (by omega) ?_
    exact ih7 (j + 1) (by omega) (show (S 0 3).toNat - (j + 1) < (S 0 3).toNat - j by omega)
abbrev rm_L_refused : Room := { frames := 10, cells := 1100, slots := 6600, locals := 202 }
set_option maxHeartbeats 4000000 in
set_option maxRecDepth 100000 in
theorem c_L_refused (l : Launch) (hl9 : l.stackTraces = false) (N0 : Nat) (G : zz_G) (Y : zz_Y) (a : Nat → Nat) (S : zz_S) (q ad : Nat) (D : Nat → Int) (hq : G.2.2[q]? = some (ad, .inl (G.2.1 0, 4, .inl (fun x => Int32.ofInt (D x))))) (hd : D 0 = S 0 3 ∧ D 1 = S 0 7 ∧ D 2 = S 0 9 ∧ D 3 = S 0 10) (hI : zz_IC S) (hdc : S 3 3 < 512) (hlc : S 7 3 < 512) : CtR l yL_refused wsL_refused rm_L_refused 1100 [.ref (a 0), .ref ad] N0 G Y a S 1 S True False False False := by
  refine Ct_.of (cc := cL_refused) (maxL := 5) (ret := (some .boolean)) (by decide) rfl (Nat.le_of_ble_eq_true rfl) ?_
  intro p e s m args below meth c hC hts hr hlk hex hF
  have hK := hF.2.1
  have k17 : (Cond.constant RL 17 (Int32.ofInt (-2000000001))).before args s = true := hts _ (by decide +kernel)
  have k20 : (Cond.constant RL 20 (Int32.ofInt (-2000000002))).before args s = true := hts _ (by decide +kernel)
  obtain ⟨itc, ioc, iac, icc, itd, idc, ilc, iab, idv, iow, ikd, idy, ims, ihm, ict, iwv, irm, ipl, ian, ist, idl, ipe, ifi, ias, ihe, ifn, iod, ity⟩ := id hI
  refine gd_lveq (lv' := [(0, .ref (a 0)), (1, .ref ad)]) rfl ?_
  refine gd_aload_n hC dL_refused_0 rfl (j := 0) rfl ?_
  refine gd_aload_n hC dL_refused_1 rfl (j := 1) rfl ?_
  refine gd_callS (K := 480) (As := [.ref (a 0), .ref ad]) (rest := []) hC hF (fun _ => c_L_all l hl9 N0 G Y a S q ad D hq hd hI) (va_cwS 2 hts gL_refused_L_all rfl rfl rfl (by decide +kernel) ⟨by decide, by decide⟩) rfl rfl (Nat.le_of_ble_eq_true rfl) dL_refused_2 ⟨Nat.le_of_ble_eq_true rfl, Nat.le_of_ble_eq_true rfl⟩ (fun _ _ h => h.elim) (fun v9 S9 h9 => ?_)
  obtain ⟨hv9, hS9⟩ := h9
  rw [hv9, hS9]
  clear hv9 hS9
  refine gd_lstore_n hC dL_refused_5 rfl (by decide) (lv' := [(2, zz_l (zy_all S)), (0, .ref (a 0)), (1, .ref ad)]) rfl ?_
  refine gd_aload_n hC dL_refused_6 rfl (j := 1) rfl ?_
  refine gd_iconst hC dL_refused_7 ?_
  refine gd_bipush hC dL_refused_8 rfl ?_
  refine gd_iconst hC dL_refused_10 ?_
  refine gd_iconst hC dL_refused_11 ?_
  refine gd_callC (what := 0) (x := 65) (y := 0) (w := 0) (rest := []) hl9 hC hF (c_L_does_letter l hl9 N0 G Y a S 0 0 65 ⟨by decide, by decide⟩ hI) (vx_cwSW 5 hts gL_refused_L_call rfl rfl rfl (by decide +kernel) ⟨by decide, by decide⟩) rfl (Nat.le_of_ble_eq_true rfl) dL_refused_12 ⟨Nat.le_of_ble_eq_true rfl, Nat.le_of_ble_eq_true rfl⟩ (fun r S' hr1 hw => ?_)
  rcases hw with ⟨-, hwX, -⟩ | ⟨-, hwX, -⟩ | ⟨hr9, hwX, hS9⟩ | ⟨-, hwX, -⟩
  · exfalso; first | omega | exact hwX
  · exfalso; first | omega | exact hwX
  rotate_left
  · exfalso; first | omega | exact hwX
  rw [hr9, hS9]
  clear hwX hr1 hr9 hS9
  refine gd_ldc hC (n := -2000000002) k20 dL_refused_15 ?_
  refine gd_icmp_ne hC dL_refused_17 (tgt := 207) (by decide) ⟨by decide, by decide⟩ ⟨by decide, by decide⟩ (fun c1 => (by omega)) (fun c1 => ?_)
  refine gd_aload_n hC dL_refused_20 rfl (j := 1) rfl ?_
  refine gd_iconst hC dL_refused_21 ?_
  refine gd_bipush hC dL_refused_22 rfl ?_
  refine gd_iconst hC dL_refused_24 ?_
  refine gd_iconst hC dL_refused_25 ?_
  refine gd_callC (what := 1) (x := 10) (y := 0) (w := 0) (rest := []) hl9 hC hF (c_L_does_office l hl9 N0 G Y a S 0 0 10 ⟨by decide, by decide⟩ hI) (vx_cwSW 5 hts gL_refused_L_call rfl rfl rfl (by decide +kernel) ⟨by decide, by decide⟩) rfl (Nat.le_of_ble_eq_true rfl) dL_refused_26 ⟨Nat.le_of_ble_eq_true rfl, Nat.le_of_ble_eq_true rfl⟩ (fun r S' hr1 hw => ?_)
  rcases hw with ⟨-, hwX, -⟩ | ⟨hr9, hwX, hS9⟩ | ⟨-, hwX, -⟩ | ⟨-, hwX, -⟩
  · exfalso; first | omega | exact hwX
  rotate_left
  · exfalso; first | omega | exact hwX
  · exfalso; first | omega | exact hwX
  rw [hr9, hS9]
  clear hwX hr1 hr9 hS9
  refine gd_ldc hC (n := -2000000001) k17 dL_refused_29 ?_
  refine gd_icmp_ne hC dL_refused_31 (tgt := 207) (by decide) ⟨by decide, by decide⟩ ⟨by decide, by decide⟩ (fun c2 => (by omega)) (fun c2 => ?_)
  refine gd_aload_n hC dL_refused_34 rfl (j := 1) rfl ?_
  refine gd_iconst hC dL_refused_35 ?_
  refine gd_bipush hC dL_refused_36 rfl ?_
  refine gd_iconst hC dL_refused_38 ?_
  refine gd_iconst hC dL_refused_39 ?_
  refine gd_callC (what := 2) (x := 10) (y := 0) (w := 0) (rest := []) hl9 hC hF (c_L_does_delegate l hl9 N0 G Y a S 0 10 0 ⟨by decide, by decide⟩ ⟨by decide, by decide⟩ (by omega) hI) (vx_cwSW 5 hts gL_refused_L_call rfl rfl rfl (by decide +kernel) ⟨by decide, by decide⟩) rfl (Nat.le_of_ble_eq_true rfl) dL_refused_40 ⟨Nat.le_of_ble_eq_true rfl, Nat.le_of_ble_eq_true rfl⟩ (fun r S' hr1 hw => ?_)
  rcases hw with ⟨-, hwX, -⟩ | ⟨hr9, hwX, hS9⟩ | ⟨-, hwX, -⟩ | ⟨-, hwX, -⟩
  · exfalso; first | omega | exact hwX
  rotate_left
  · exfalso; first | omega | exact hwX
  · exfalso; first | omega | exact hwX
  rw [hr9, hS9]
  clear hwX hr1 hr9 hS9
  refine gd_ldc hC (n := -2000000001) k17 dL_refused_43 ?_
  refine gd_icmp_ne hC dL_refused_45 (tgt := 207) (by decide) ⟨by decide, by decide⟩ ⟨by decide, by decide⟩ (fun c3 => (by omega)) (fun c3 => ?_)
  refine gd_aload_n hC dL_refused_48 rfl (j := 1) rfl ?_
  refine gd_iconst hC dL_refused_49 ?_
  refine gd_iconst hC dL_refused_50 ?_
  refine gd_iconst hC dL_refused_51 ?_
  refine gd_iconst hC dL_refused_52 ?_
  refine gd_callC (what := 2) (x := (-1)) (y := 0) (w := 0) (rest := []) hl9 hC hF (c_L_does_delegate l hl9 N0 G Y a S 0 (-1) 0 ⟨by decide, by decide⟩ ⟨by decide, by decide⟩ (by omega) hI) (vx_cwSW 5 hts gL_refused_L_call rfl rfl rfl (by decide +kernel) ⟨by decide, by decide⟩) rfl (Nat.le_of_ble_eq_true rfl) dL_refused_53 ⟨Nat.le_of_ble_eq_true rfl, Nat.le_of_ble_eq_true rfl⟩ (fun r S' hr1 hw => ?_)
  rcases hw with ⟨-, hwX, -⟩ | ⟨hr9, hwX, hS9⟩ | ⟨-, hwX, -⟩ | ⟨-, hwX, -⟩
  · exfalso; first | omega | exact hwX
  rotate_left
  · exfalso; first | omega | exact hwX
  · exfalso; first | omega | exact hwX
  rw [hr9, hS9]
  clear hwX hr1 hr9 hS9
  refine gd_ldc hC (n := -2000000001) k17 dL_refused_56 ?_
  refine gd_icmp_ne hC dL_refused_58 (tgt := 207) (by decide) ⟨by decide, by decide⟩ ⟨by decide, by decide⟩ (fun c4 => (by omega)) (fun c4 => ?_)
  refine gd_aload_n hC dL_refused_61 rfl (j := 1) rfl ?_
  refine gd_iconst hC dL_refused_62 ?_
  refine gd_bipush hC dL_refused_63 rfl ?_
  refine gd_iconst hC dL_refused_65 ?_
  refine gd_iconst hC dL_refused_66 ?_
  refine gd_callC (what := 3) (x := 10) (y := 0) (w := 0) (rest := []) hl9 hC hF (c_L_does_whose l hl9 N0 G Y a S 0 10 0 ⟨by decide, by decide⟩ ⟨by decide, by decide⟩ hI) (vx_cwSW 5 hts gL_refused_L_call rfl rfl rfl (by decide +kernel) ⟨by decide, by decide⟩) rfl (Nat.le_of_ble_eq_true rfl) dL_refused_67 ⟨Nat.le_of_ble_eq_true rfl, Nat.le_of_ble_eq_true rfl⟩ (fun r S' hr1 hw => ?_)
  rcases hw with ⟨-, hwX, -⟩ | ⟨hr9, hwX, hS9⟩ | ⟨-, hwX, -⟩ | ⟨-, hwX, -⟩
  · exfalso; first | omega | exact hwX
  rotate_left
  · exfalso; first | omega | exact hwX
  · exfalso; first | omega | exact hwX
  rw [hr9, hS9]
  clear hwX hr1 hr9 hS9
  refine gd_ldc hC (n := -2000000001) k17 dL_refused_70 ?_
  refine gd_icmp_ne hC dL_refused_72 (tgt := 207) (by decide) ⟨by decide, by decide⟩ ⟨by decide, by decide⟩ (fun c5 => (by omega)) (fun c5 => ?_)
  refine gd_aload_n hC dL_refused_75 rfl (j := 1) rfl ?_
  refine gd_iconst hC dL_refused_76 ?_
  refine gd_iconst hC dL_refused_77 ?_
  refine gd_iconst hC dL_refused_78 ?_
  refine gd_iconst hC dL_refused_79 ?_
  refine gd_callC (what := 4) (x := (-1)) (y := 0) (w := 0) (rest := []) hl9 hC hF (c_L_does_limit l hl9 N0 G Y a S 0 (-1) 0 ⟨by decide, by decide⟩ ⟨by decide, by decide⟩ (by omega) hI) (vx_cwSW 5 hts gL_refused_L_call rfl rfl rfl (by decide +kernel) ⟨by decide, by decide⟩) rfl (Nat.le_of_ble_eq_true rfl) dL_refused_80 ⟨Nat.le_of_ble_eq_true rfl, Nat.le_of_ble_eq_true rfl⟩ (fun r S' hr1 hw => ?_)
  rcases hw with ⟨-, hwX, -⟩ | ⟨hr9, hwX, hS9⟩ | ⟨-, hwX, -⟩ | ⟨-, hwX, -⟩
  · exfalso; first | omega | exact hwX
  rotate_left
  · exfalso; first | omega | exact hwX
  · exfalso; first | omega | exact hwX
  rw [hr9, hS9]
  clear hwX hr1 hr9 hS9
  refine gd_ldc hC (n := -2000000001) k17 dL_refused_83 ?_
  refine gd_icmp_ne hC dL_refused_85 (tgt := 207) (by decide) ⟨by decide, by decide⟩ ⟨by decide, by decide⟩ (fun c6 => (by omega)) (fun c6 => ?_)
  refine gd_aload_n hC dL_refused_88 rfl (j := 1) rfl ?_
  refine gd_iconst hC dL_refused_89 ?_
  refine gd_iconst hC dL_refused_90 ?_
  refine gd_iconst hC dL_refused_91 ?_
  refine gd_iconst hC dL_refused_92 ?_
  refine gd_callC (what := 4) (x := 0) (y := (-1)) (w := 0) (rest := []) hl9 hC hF (c_L_does_limit l hl9 N0 G Y a S 0 0 (-1) ⟨by decide, by decide⟩ ⟨by decide, by decide⟩ (by omega) hI) (vx_cwSW 5 hts gL_refused_L_call rfl rfl rfl (by decide +kernel) ⟨by decide, by decide⟩) rfl (Nat.le_of_ble_eq_true rfl) dL_refused_93 ⟨Nat.le_of_ble_eq_true rfl, Nat.le_of_ble_eq_true rfl⟩ (fun r S' hr1 hw => ?_)
  rcases hw with ⟨-, hwX, -⟩ | ⟨-, hwX, -⟩ | ⟨hr9, hwX, hS9⟩ | ⟨-, hwX, -⟩
  · exfalso; first | omega | exact hwX
  · exfalso; first | omega | exact hwX
  rotate_left
  · exfalso; first | omega | exact hwX
  rw [hr9, hS9]
  clear hwX hr1 hr9 hS9
  refine gd_ldc hC (n := -2000000002) k20 dL_refused_96 ?_
  refine gd_icmp_ne hC dL_refused_98 (tgt := 207) (by decide) ⟨by decide, by decide⟩ ⟨by decide, by decide⟩ (fun c7 => (by omega)) (fun c7 => ?_)
  refine gd_aload_n hC dL_refused_101 rfl (j := 1) rfl ?_
  refine gd_iconst hC dL_refused_102 ?_
  refine gd_bipush hC dL_refused_103 rfl ?_
  refine gd_iconst hC dL_refused_105 ?_
  refine gd_iconst hC dL_refused_106 ?_
  refine gd_callC (what := 5) (x := 10) (y := 0) (w := 0) (rest := []) hl9 hC hF (c_L_does_act l hl9 N0 G Y a S 10 0 0 ⟨by decide, by decide⟩ ⟨by decide, by decide⟩ ⟨by decide, by decide⟩ hI) (vx_cwSW 5 hts gL_refused_L_call rfl rfl rfl (by decide +kernel) ⟨by decide, by decide⟩) rfl (Nat.le_of_ble_eq_true rfl) dL_refused_107 ⟨Nat.le_of_ble_eq_true rfl, Nat.le_of_ble_eq_true rfl⟩ (fun r S' hr1 hw => ?_)
  rcases hw with ⟨-, hwX, -⟩ | ⟨hr9, hwX, hS9⟩ | ⟨-, hwX, -⟩ | ⟨-, hwX, -⟩
  · exfalso; first | omega | exact hwX
  rotate_left
  · exfalso; first | omega | exact hwX
  · exfalso; first | omega | exact hwX
  rw [hr9, hS9]
  clear hwX hr1 hr9 hS9
  refine gd_ldc hC (n := -2000000001) k17 dL_refused_110 ?_
  refine gd_icmp_ne hC dL_refused_112 (tgt := 207) (by decide) ⟨by decide, by decide⟩ ⟨by decide, by decide⟩ (fun c8 => (by omega)) (fun c8 => ?_)
  refine gd_aload_n hC dL_refused_115 rfl (j := 1) rfl ?_
  refine gd_bipush hC dL_refused_116 rfl ?_
  refine gd_bipush hC dL_refused_118 rfl ?_
  refine gd_iconst hC dL_refused_120 ?_
  refine gd_iconst hC dL_refused_121 ?_
  refine gd_callC (what := 6) (x := 24) (y := 0) (w := 0) (rest := []) hl9 hC hF (c_L_does_court_0 l hl9 N0 G Y a S 0 24 ⟨by decide, by decide⟩ hI) (vx_cwSW 5 hts gL_refused_L_call rfl rfl rfl (by decide +kernel) ⟨by decide, by decide⟩) rfl (Nat.le_of_ble_eq_true rfl) dL_refused_122 ⟨Nat.le_of_ble_eq_true rfl, Nat.le_of_ble_eq_true rfl⟩ (fun r S' hr1 hw => ?_)
  rcases hw with ⟨-, hwX, -⟩ | ⟨hr9, hwX, hS9⟩ | ⟨-, hwX, -⟩ | ⟨-, hwX, -⟩
  · exfalso; first | omega | exact hwX
  rotate_left
  · exfalso; first | omega | exact hwX
  · exfalso; first | omega | exact hwX
  rw [hr9, hS9]
  clear hwX hr1 hr9 hS9
  refine gd_ldc hC (n := -2000000001) k17 dL_refused_125 ?_
  refine gd_icmp_ne hC dL_refused_127 (tgt := 207) (by decide) ⟨by decide, by decide⟩ ⟨by decide, by decide⟩ (fun c9 => (by omega)) (fun c9 => ?_)
  refine gd_aload_n hC dL_refused_130 rfl (j := 1) rfl ?_
  refine gd_bipush hC dL_refused_131 rfl ?_
  refine gd_iconst hC dL_refused_133 ?_
  refine gd_iconst hC dL_refused_134 ?_
  refine gd_iconst hC dL_refused_135 ?_
  refine gd_callC (what := 7) (x := (-1)) (y := 0) (w := 0) (rest := []) hl9 hC hF (c_L_does_waive_0 l hl9 N0 G Y a S 0 (-1) ⟨by decide, by decide⟩ hI) (vx_cwSW 5 hts gL_refused_L_call rfl rfl rfl (by decide +kernel) ⟨by decide, by decide⟩) rfl (Nat.le_of_ble_eq_true rfl) dL_refused_136 ⟨Nat.le_of_ble_eq_true rfl, Nat.le_of_ble_eq_true rfl⟩ (fun r S' hr1 hw => ?_)
  rcases hw with ⟨-, hwX, -⟩ | ⟨hr9, hwX, hS9⟩ | ⟨-, hwX, -⟩ | ⟨-, hwX, -⟩
  · exfalso; first | omega | exact hwX
  rotate_left
  · exfalso; first | omega | exact hwX
  · exfalso; first | omega | exact hwX
  rw [hr9, hS9]
  clear hwX hr1 hr9 hS9
  refine gd_ldc hC (n := -2000000001) k17 dL_refused_139 ?_
  refine gd_icmp_ne hC dL_refused_141 (tgt := 207) (by decide) ⟨by decide, by decide⟩ ⟨by decide, by decide⟩ (fun c10 => (by omega)) (fun c10 => ?_)
  refine gd_aload_n hC dL_refused_144 rfl (j := 1) rfl ?_
  refine gd_bipush hC dL_refused_145 rfl ?_
  refine gd_bipush hC dL_refused_147 rfl ?_
  refine gd_iconst hC dL_refused_149 ?_
  refine gd_iconst hC dL_refused_150 ?_
  refine gd_callC (what := 8) (x := 10) (y := 0) (w := 0) (rest := []) hl9 hC hF (c_L_does_plea l hl9 N0 G Y a S 0 10 0 ⟨by decide, by decide⟩ ⟨by decide, by decide⟩ hI) (vx_cwSW 5 hts gL_refused_L_call rfl rfl rfl (by decide +kernel) ⟨by decide, by decide⟩) rfl (Nat.le_of_ble_eq_true rfl) dL_refused_151 ⟨Nat.le_of_ble_eq_true rfl, Nat.le_of_ble_eq_true rfl⟩ (fun r S' hr1 hw => ?_)
  rcases hw with ⟨-, hwX, -⟩ | ⟨hr9, hwX, hS9⟩ | ⟨-, hwX, -⟩ | ⟨-, hwX, -⟩
  · exfalso; first | omega | exact hwX
  rotate_left
  · exfalso; first | omega | exact hwX
  · exfalso; first | omega | exact hwX
  rw [hr9, hS9]
  clear hwX hr1 hr9 hS9
  refine gd_ldc hC (n := -2000000001) k17 dL_refused_154 ?_
  refine gd_icmp_ne hC dL_refused_156 (tgt := 207) (by decide) ⟨by decide, by decide⟩ ⟨by decide, by decide⟩ (fun c11 => (by omega)) (fun c11 => ?_)
  refine gd_aload_n hC dL_refused_159 rfl (j := 1) rfl ?_
  refine gd_bipush hC dL_refused_160 rfl ?_
  refine gd_iconst hC dL_refused_162 ?_
  refine gd_bipush hC dL_refused_163 rfl ?_
  refine gd_iconst hC dL_refused_165 ?_
  refine gd_callC (what := 8) (x := 0) (y := 24) (w := 0) (rest := []) hl9 hC hF (c_L_does_plea l hl9 N0 G Y a S 0 0 24 ⟨by decide, by decide⟩ ⟨by decide, by decide⟩ hI) (vx_cwSW 5 hts gL_refused_L_call rfl rfl rfl (by decide +kernel) ⟨by decide, by decide⟩) rfl (Nat.le_of_ble_eq_true rfl) dL_refused_166 ⟨Nat.le_of_ble_eq_true rfl, Nat.le_of_ble_eq_true rfl⟩ (fun r S' hr1 hw => ?_)
  rcases hw with ⟨-, hwX, -⟩ | ⟨hr9, hwX, hS9⟩ | ⟨-, hwX, -⟩ | ⟨-, hwX, -⟩
  · exfalso; first | omega | exact hwX
  rotate_left
  · exfalso; first | omega | exact hwX
  · exfalso; first | omega | exact hwX
  rw [hr9, hS9]
  clear hwX hr1 hr9 hS9
  refine gd_ldc hC (n := -2000000001) k17 dL_refused_169 ?_
  refine gd_icmp_ne hC dL_refused_171 (tgt := 207) (by decide) ⟨by decide, by decide⟩ ⟨by decide, by decide⟩ (fun c12 => (by omega)) (fun c12 => ?_)
  refine gd_aload_n hC dL_refused_174 rfl (j := 1) rfl ?_
  refine gd_bipush hC dL_refused_175 rfl ?_
  refine gd_iconst hC dL_refused_177 ?_
  refine gd_iconst hC dL_refused_178 ?_
  refine gd_iconst hC dL_refused_179 ?_
  refine gd_callC (what := 9) (x := (-1)) (y := 0) (w := 0) (rest := []) hl9 hC hF (c_L_does_bar l hl9 N0 G Y a S 0 (-1) 0 ⟨by decide, by decide⟩ ⟨by decide, by decide⟩ hI) (vx_cwSW 5 hts gL_refused_L_call rfl rfl rfl (by decide +kernel) ⟨by decide, by decide⟩) rfl (Nat.le_of_ble_eq_true rfl) dL_refused_180 ⟨Nat.le_of_ble_eq_true rfl, Nat.le_of_ble_eq_true rfl⟩ (fun r S' hr1 hw => ?_)
  rcases hw with ⟨-, hwX, -⟩ | ⟨hr9, hwX, hS9⟩ | ⟨-, hwX, -⟩ | ⟨-, hwX, -⟩
  · exfalso; first | omega | exact hwX
  rotate_left
  · exfalso; first | omega | exact hwX
  · exfalso; first | omega | exact hwX
  rw [hr9, hS9]
  clear hwX hr1 hr9 hS9
  refine gd_ldc hC (n := -2000000001) k17 dL_refused_183 ?_
  refine gd_icmp_ne hC dL_refused_185 (tgt := 207) (by decide) ⟨by decide, by decide⟩ ⟨by decide, by decide⟩ (fun c13 => (by omega)) (fun c13 => ?_)
  refine gd_aload_n hC dL_refused_188 rfl (j := 1) rfl ?_
  refine gd_bipush hC dL_refused_189 rfl ?_
  refine gd_iconst hC dL_refused_191 ?_
  refine gd_bipush hC dL_refused_192 rfl ?_
  refine gd_iconst hC dL_refused_194 ?_
  refine gd_callC (what := 10) (x := 0) (y := 24) (w := 0) (rest := []) hl9 hC hF (c_L_does_complain l hl9 N0 G Y a S 0 0 24 ⟨by decide, by decide⟩ ⟨by decide, by decide⟩ hI) (vx_cwSW 5 hts gL_refused_L_call rfl rfl rfl (by decide +kernel) ⟨by decide, by decide⟩) rfl (Nat.le_of_ble_eq_true rfl) dL_refused_195 ⟨Nat.le_of_ble_eq_true rfl, Nat.le_of_ble_eq_true rfl⟩ (fun r S' hr1 hw => ?_)
  rcases hw with ⟨-, hwX, -⟩ | ⟨hr9, hwX, hS9⟩ | ⟨-, hwX, -⟩ | ⟨-, hwX, -⟩
  · exfalso; first | omega | exact hwX
  rotate_left
  · exfalso; first | omega | exact hwX
  · exfalso; first | omega | exact hwX
  rw [hr9, hS9]
  clear hwX hr1 hr9 hS9
  refine gd_ldc hC (n := -2000000001) k17 dL_refused_198 ?_
  refine gd_icmp_ne hC dL_refused_200 (tgt := 207) (by decide) ⟨by decide, by decide⟩ ⟨by decide, by decide⟩ (fun c14 => (by omega)) (fun c14 => ?_)
  refine gd_iconst hC dL_refused_203 ?_
  refine gd_goto hC dL_refused_204 (tgt := 208) (by decide) ?_
  refine gd_istore hC dL_refused_208 (by decide) (lv' := [(4, zz_v 1), (2, zz_l (zy_all S)), (0, .ref (a 0)), (1, .ref ad)]) rfl ?_
  refine gd_iload hC dL_refused_210 (j := 0) rfl ?_
  refine gd_if_eq hC dL_refused_212 (tgt := 418) (by decide) ⟨by decide, by decide⟩ (fun c15 => (by omega)) (fun c15 => ?_)
  refine gd_aload_n hC dL_refused_215 rfl (j := 2) rfl ?_
  refine gd_bipush hC dL_refused_216 rfl ?_
  refine gd_bipush hC dL_refused_218 rfl ?_
  refine gd_iconst hC dL_refused_220 ?_
  refine gd_iconst hC dL_refused_221 ?_
  refine gd_callC (what := 11) (x := 16) (y := 0) (w := 0) (rest := []) hl9 hC hF (c_L_does_ask l hl9 N0 G Y a S 0 0 16 ⟨by decide, by decide⟩ hI) (vx_cwSW 5 hts gL_refused_L_call rfl rfl rfl (by decide +kernel) ⟨by decide, by decide⟩) rfl (Nat.le_of_ble_eq_true rfl) dL_refused_222 ⟨Nat.le_of_ble_eq_true rfl, Nat.le_of_ble_eq_true rfl⟩ (fun r S' hr1 hw => ?_)
  rcases hw with ⟨-, hwX, -⟩ | ⟨hr9, hwX, hS9⟩ | ⟨-, hwX, -⟩ | ⟨-, hwX, -⟩
  · exfalso; first | omega | exact hwX
  rotate_left
  · exfalso; first | omega | exact hwX
  · exfalso; first | omega | exact hwX
  rw [hr9, hS9]
  clear hwX hr1 hr9 hS9
  refine gd_ldc hC (n := -2000000001) k17 dL_refused_225 ?_
  refine gd_icmp_ne hC dL_refused_227 (tgt := 418) (by decide) ⟨by decide, by decide⟩ ⟨by decide, by decide⟩ (fun c16 => (by omega)) (fun c16 => ?_)
  refine gd_aload_n hC dL_refused_230 rfl (j := 2) rfl ?_
  refine gd_bipush hC dL_refused_231 rfl ?_
  refine gd_bipush hC dL_refused_233 rfl ?_
  refine gd_iconst hC dL_refused_235 ?_
  refine gd_iconst hC dL_refused_236 ?_
  refine gd_callC (what := 12) (x := 16) (y := 0) (w := 0) (rest := []) hl9 hC hF (c_L_does_answer l hl9 N0 G Y a S 0 0 16 ⟨by decide, by decide⟩ hI) (vx_cwSW 5 hts gL_refused_L_call rfl rfl rfl (by decide +kernel) ⟨by decide, by decide⟩) rfl (Nat.le_of_ble_eq_true rfl) dL_refused_237 ⟨Nat.le_of_ble_eq_true rfl, Nat.le_of_ble_eq_true rfl⟩ (fun r S' hr1 hw => ?_)
  rcases hw with ⟨-, hwX, -⟩ | ⟨hr9, hwX, hS9⟩ | ⟨-, hwX, -⟩ | ⟨-, hwX, -⟩
  · exfalso; first | omega | exact hwX
  rotate_left
  · exfalso; first | omega | exact hwX
  · exfalso; first | omega | exact hwX
  rw [hr9, hS9]
  clear hwX hr1 hr9 hS9
  refine gd_ldc hC (n := -2000000001) k17 dL_refused_240 ?_
  refine gd_icmp_ne hC dL_refused_242 (tgt := 418) (by decide) ⟨by decide, by decide⟩ ⟨by decide, by decide⟩ (fun c17 => (by omega)) (fun c17 => ?_)
  refine gd_aload_n hC dL_refused_245 rfl (j := 2) rfl ?_
  refine gd_bipush hC dL_refused_246 rfl ?_
  refine gd_iconst hC dL_refused_248 ?_
  refine gd_iconst hC dL_refused_249 ?_
  refine gd_iconst hC dL_refused_250 ?_
  refine gd_callC (what := 13) (x := (-1)) (y := 0) (w := 0) (rest := []) hl9 hC hF (c_L_does_hear l hl9 N0 G Y a S 0 0 (-1) ⟨by decide, by decide⟩ hI) (vx_cwSW 5 hts gL_refused_L_call rfl rfl rfl (by decide +kernel) ⟨by decide, by decide⟩) rfl (Nat.le_of_ble_eq_true rfl) dL_refused_251 ⟨Nat.le_of_ble_eq_true rfl, Nat.le_of_ble_eq_true rfl⟩ (fun r S' hr1 hw => ?_)
  rcases hw with ⟨-, hwX, -⟩ | ⟨hr9, hwX, hS9⟩ | ⟨-, hwX, -⟩ | ⟨-, hwX, -⟩
  · exfalso; first | omega | exact hwX
  rotate_left
  · exfalso; first | omega | exact hwX
  · exfalso; first | omega | exact hwX
  rw [hr9, hS9]
  clear hwX hr1 hr9 hS9
  refine gd_ldc hC (n := -2000000001) k17 dL_refused_254 ?_
  refine gd_icmp_ne hC dL_refused_256 (tgt := 418) (by decide) ⟨by decide, by decide⟩ ⟨by decide, by decide⟩ (fun c18 => (by omega)) (fun c18 => ?_)
  refine gd_aload_n hC dL_refused_259 rfl (j := 2) rfl ?_
  refine gd_bipush hC dL_refused_260 rfl ?_
  refine gd_bipush hC dL_refused_262 rfl ?_
  refine gd_iconst hC dL_refused_264 ?_
  refine gd_iconst hC dL_refused_265 ?_
  refine gd_callC (what := 14) (x := 16) (y := 0) (w := 0) (rest := []) hl9 hC hF (c_L_does_find l hl9 N0 G Y a S 0 0 16 ⟨by decide, by decide⟩ hI) (vx_cwSW 5 hts gL_refused_L_call rfl rfl rfl (by decide +kernel) ⟨by decide, by decide⟩) rfl (Nat.le_of_ble_eq_true rfl) dL_refused_266 ⟨Nat.le_of_ble_eq_true rfl, Nat.le_of_ble_eq_true rfl⟩ (fun r S' hr1 hw => ?_)
  rcases hw with ⟨-, hwX, -⟩ | ⟨hr9, hwX, hS9⟩ | ⟨-, hwX, -⟩ | ⟨-, hwX, -⟩
  · exfalso; first | omega | exact hwX
  rotate_left
  · exfalso; first | omega | exact hwX
  · exfalso; first | omega | exact hwX
  rw [hr9, hS9]
  clear hwX hr1 hr9 hS9
  refine gd_ldc hC (n := -2000000001) k17 dL_refused_269 ?_
  refine gd_icmp_ne hC dL_refused_271 (tgt := 418) (by decide) ⟨by decide, by decide⟩ ⟨by decide, by decide⟩ (fun c19 => (by omega)) (fun c19 => ?_)
  refine gd_aload_n hC dL_refused_274 rfl (j := 2) rfl ?_
  refine gd_bipush hC dL_refused_275 rfl ?_
  refine gd_bipush hC dL_refused_277 rfl ?_
  refine gd_iconst hC dL_refused_279 ?_
  refine gd_iconst hC dL_refused_280 ?_
  refine gd_callC (what := 15) (x := 16) (y := 0) (w := 0) (rest := []) hl9 hC hF (c_L_does_remedy l hl9 N0 G Y a S 0 16 0 ⟨by decide, by decide⟩ ⟨by decide, by decide⟩ hI) (vx_cwSW 5 hts gL_refused_L_call rfl rfl rfl (by decide +kernel) ⟨by decide, by decide⟩) rfl (Nat.le_of_ble_eq_true rfl) dL_refused_281 ⟨Nat.le_of_ble_eq_true rfl, Nat.le_of_ble_eq_true rfl⟩ (fun r S' hr1 hw => ?_)
  rcases hw with ⟨-, hwX, -⟩ | ⟨hr9, hwX, hS9⟩ | ⟨-, hwX, -⟩ | ⟨-, hwX, -⟩
  · exfalso; first | omega | exact hwX
  rotate_left
  · exfalso; first | omega | exact hwX
  · exfalso; first | omega | exact hwX
  rw [hr9, hS9]
  clear hwX hr1 hr9 hS9
  refine gd_ldc hC (n := -2000000001) k17 dL_refused_284 ?_
  refine gd_icmp_ne hC dL_refused_286 (tgt := 418) (by decide) ⟨by decide, by decide⟩ ⟨by decide, by decide⟩ (fun c20 => (by omega)) (fun c20 => ?_)
  refine gd_aload_n hC dL_refused_289 rfl (j := 2) rfl ?_
  refine gd_bipush hC dL_refused_290 rfl ?_
  refine gd_iconst hC dL_refused_292 ?_
  refine gd_iconst hC dL_refused_293 ?_
  refine gd_iconst hC dL_refused_294 ?_
  refine gd_callC (what := 16) (x := 0) (y := 0) (w := 0) (rest := []) hl9 hC hF (c_L_does_pass l hl9 N0 G Y a S 0 0 0 ⟨by decide, by decide⟩ hI) (vx_cwSW 5 hts gL_refused_L_call rfl rfl rfl (by decide +kernel) ⟨by decide, by decide⟩) rfl (Nat.le_of_ble_eq_true rfl) dL_refused_295 ⟨Nat.le_of_ble_eq_true rfl, Nat.le_of_ble_eq_true rfl⟩ (fun r S' hr1 hw => ?_)
  rcases hw with ⟨-, hwX, -⟩ | ⟨-, hwX, -⟩ | ⟨hr9, hwX, hS9⟩ | ⟨-, hwX, -⟩
  · exfalso; first | omega | exact hwX
  · exfalso; first | omega | exact hwX
  rotate_left
  · exfalso; first | omega | exact hwX
  rw [hr9, hS9]
  clear hwX hr1 hr9 hS9
  refine gd_ldc hC (n := -2000000002) k20 dL_refused_298 ?_
  refine gd_icmp_ne hC dL_refused_300 (tgt := 418) (by decide) ⟨by decide, by decide⟩ ⟨by decide, by decide⟩ (fun c21 => (by omega)) (fun c21 => ?_)
  refine gd_aload_n hC dL_refused_303 rfl (j := 2) rfl ?_
  refine gd_bipush hC dL_refused_304 rfl ?_
  refine gd_iconst hC dL_refused_306 ?_
  refine gd_iconst hC dL_refused_307 ?_
  refine gd_iconst hC dL_refused_308 ?_
  refine gd_callC (what := 17) (x := (-1)) (y := 0) (w := 0) (rest := []) hl9 hC hF (c_L_does_about l hl9 N0 G Y a S 0 (-1) 0 ⟨by decide, by decide⟩ ⟨by decide, by decide⟩ hI) (vx_cwSW 5 hts gL_refused_L_call rfl rfl rfl (by decide +kernel) ⟨by decide, by decide⟩) rfl (Nat.le_of_ble_eq_true rfl) dL_refused_309 ⟨Nat.le_of_ble_eq_true rfl, Nat.le_of_ble_eq_true rfl⟩ (fun r S' hr1 hw => ?_)
  rcases hw with ⟨-, hwX, -⟩ | ⟨hr9, hwX, hS9⟩ | ⟨-, hwX, -⟩ | ⟨-, hwX, -⟩
  · exfalso; first | omega | exact hwX
  rotate_left
  · exfalso; first | omega | exact hwX
  · exfalso; first | omega | exact hwX
  rw [hr9, hS9]
  clear hwX hr1 hr9 hS9
  refine gd_ldc hC (n := -2000000001) k17 dL_refused_312 ?_
  refine gd_icmp_ne hC dL_refused_314 (tgt := 418) (by decide) ⟨by decide, by decide⟩ ⟨by decide, by decide⟩ (fun c22 => (by omega)) (fun c22 => ?_)
  refine gd_aload_n hC dL_refused_317 rfl (j := 2) rfl ?_
  refine gd_bipush hC dL_refused_318 rfl ?_
  refine gd_bipush hC dL_refused_320 rfl ?_
  refine gd_iconst hC dL_refused_322 ?_
  refine gd_iconst hC dL_refused_323 ?_
  refine gd_callC (what := 18) (x := 16) (y := 0) (w := 0) (rest := []) hl9 hC hF (c_L_does_reminder l hl9 N0 G Y a S 0 0 16 ⟨by decide, by decide⟩ hI) (vx_cwSW 5 hts gL_refused_L_call rfl rfl rfl (by decide +kernel) ⟨by decide, by decide⟩) rfl (Nat.le_of_ble_eq_true rfl) dL_refused_324 ⟨Nat.le_of_ble_eq_true rfl, Nat.le_of_ble_eq_true rfl⟩ (fun r S' hr1 hw => ?_)
  rcases hw with ⟨-, hwX, -⟩ | ⟨hr9, hwX, hS9⟩ | ⟨-, hwX, -⟩ | ⟨-, hwX, -⟩
  · exfalso; first | omega | exact hwX
  rotate_left
  · exfalso; first | omega | exact hwX
  · exfalso; first | omega | exact hwX
  rw [hr9, hS9]
  clear hwX hr1 hr9 hS9
  refine gd_ldc hC (n := -2000000001) k17 dL_refused_327 ?_
  refine gd_icmp_ne hC dL_refused_329 (tgt := 418) (by decide) ⟨by decide, by decide⟩ ⟨by decide, by decide⟩ (fun c23 => (by omega)) (fun c23 => ?_)
  refine gd_aload_n hC dL_refused_332 rfl (j := 2) rfl ?_
  refine gd_bipush hC dL_refused_333 rfl ?_
  refine gd_bipush hC dL_refused_335 rfl ?_
  refine gd_iconst hC dL_refused_337 ?_
  refine gd_iconst hC dL_refused_338 ?_
  refine gd_callC (what := 19) (x := 24) (y := 0) (w := 0) (rest := []) hl9 hC hF (c_L_does_fault l hl9 N0 G Y a S 0 0 24 ⟨by decide, by decide⟩ hI) (vx_cwSW 5 hts gL_refused_L_call rfl rfl rfl (by decide +kernel) ⟨by decide, by decide⟩) rfl (Nat.le_of_ble_eq_true rfl) dL_refused_339 ⟨Nat.le_of_ble_eq_true rfl, Nat.le_of_ble_eq_true rfl⟩ (fun r S' hr1 hw => ?_)
  rcases hw with ⟨-, hwX, -⟩ | ⟨hr9, hwX, hS9⟩ | ⟨-, hwX, -⟩ | ⟨-, hwX, -⟩
  · exfalso; first | omega | exact hwX
  rotate_left
  · exfalso; first | omega | exact hwX
  · exfalso; first | omega | exact hwX
  rw [hr9, hS9]
  clear hwX hr1 hr9 hS9
  refine gd_ldc hC (n := -2000000001) k17 dL_refused_342 ?_
  refine gd_icmp_ne hC dL_refused_344 (tgt := 418) (by decide) ⟨by decide, by decide⟩ ⟨by decide, by decide⟩ (fun c24 => (by omega)) (fun c24 => ?_)
  refine gd_aload_n hC dL_refused_347 rfl (j := 2) rfl ?_
  refine gd_bipush hC dL_refused_348 rfl ?_
  refine gd_iconst hC dL_refused_350 ?_
  refine gd_iconst hC dL_refused_351 ?_
  refine gd_iconst hC dL_refused_352 ?_
  refine gd_callC (what := 20) (x := (-1)) (y := 0) (w := 0) (rest := []) hl9 hC hF (c_L_does_likes l hl9 N0 G Y a S 0 0 (-1) ⟨by decide, by decide⟩ hI) (vx_cwSW 5 hts gL_refused_L_call rfl rfl rfl (by decide +kernel) ⟨by decide, by decide⟩) rfl (Nat.le_of_ble_eq_true rfl) dL_refused_353 ⟨Nat.le_of_ble_eq_true rfl, Nat.le_of_ble_eq_true rfl⟩ (fun r S' hr1 hw => ?_)
  rcases hw with ⟨-, hwX, -⟩ | ⟨hr9, hwX, hS9⟩ | ⟨-, hwX, -⟩ | ⟨-, hwX, -⟩
  · exfalso; first | omega | exact hwX
  rotate_left
  · exfalso; first | omega | exact hwX
  · exfalso; first | omega | exact hwX
  rw [hr9, hS9]
  clear hwX hr1 hr9 hS9
  refine gd_ldc hC (n := -2000000001) k17 dL_refused_356 ?_
  refine gd_icmp_ne hC dL_refused_358 (tgt := 418) (by decide) ⟨by decide, by decide⟩ ⟨by decide, by decide⟩ (fun c25 => (by omega)) (fun c25 => ?_)
  refine gd_aload_n hC dL_refused_361 rfl (j := 2) rfl ?_
  refine gd_bipush hC dL_refused_362 rfl ?_
  refine gd_bipush hC dL_refused_364 rfl ?_
  refine gd_iconst hC dL_refused_366 ?_
  refine gd_iconst hC dL_refused_367 ?_
  refine gd_callC (what := 21) (x := 24) (y := 0) (w := 0) (rest := []) hl9 hC hF (c_L_does_remedied l hl9 N0 G Y a S 0 0 24 ⟨by decide, by decide⟩ hI) (vx_cwSW 5 hts gL_refused_L_call rfl rfl rfl (by decide +kernel) ⟨by decide, by decide⟩) rfl (Nat.le_of_ble_eq_true rfl) dL_refused_368 ⟨Nat.le_of_ble_eq_true rfl, Nat.le_of_ble_eq_true rfl⟩ (fun r S' hr1 hw => ?_)
  rcases hw with ⟨-, hwX, -⟩ | ⟨hr9, hwX, hS9⟩ | ⟨-, hwX, -⟩ | ⟨-, hwX, -⟩
  · exfalso; first | omega | exact hwX
  rotate_left
  · exfalso; first | omega | exact hwX
  · exfalso; first | omega | exact hwX
  rw [hr9, hS9]
  clear hwX hr1 hr9 hS9
  refine gd_ldc hC (n := -2000000001) k17 dL_refused_371 ?_
  refine gd_icmp_ne hC dL_refused_373 (tgt := 418) (by decide) ⟨by decide, by decide⟩ ⟨by decide, by decide⟩ (fun c26 => (by omega)) (fun c26 => ?_)
  refine gd_aload_n hC dL_refused_376 rfl (j := 2) rfl ?_
  refine gd_bipush hC dL_refused_377 rfl ?_
  refine gd_iconst hC dL_refused_379 ?_
  refine gd_iconst hC dL_refused_380 ?_
  refine gd_iconst hC dL_refused_381 ?_
  refine gd_callC (what := 22) (x := 4) (y := 0) (w := 0) (rest := []) hl9 hC hF (c_L_does_gains l hl9 N0 G Y a S 0 4 0 ⟨by decide, by decide⟩ ⟨by decide, by decide⟩ hI) (vx_cwSW 5 hts gL_refused_L_call rfl rfl rfl (by decide +kernel) ⟨by decide, by decide⟩) rfl (Nat.le_of_ble_eq_true rfl) dL_refused_382 ⟨Nat.le_of_ble_eq_true rfl, Nat.le_of_ble_eq_true rfl⟩ (fun r S' hr1 hw => ?_)
  rcases hw with ⟨-, hwX, -⟩ | ⟨hr9, hwX, hS9⟩ | ⟨-, hwX, -⟩ | ⟨-, hwX, -⟩
  · exfalso; first | omega | exact hwX
  rotate_left
  · exfalso; first | omega | exact hwX
  · exfalso; first | omega | exact hwX
  rw [hr9, hS9]
  clear hwX hr1 hr9 hS9
  refine gd_ldc hC (n := -2000000001) k17 dL_refused_385 ?_
  refine gd_icmp_ne hC dL_refused_387 (tgt := 418) (by decide) ⟨by decide, by decide⟩ ⟨by decide, by decide⟩ (fun c27 => (by omega)) (fun c27 => ?_)
  refine gd_aload_n hC dL_refused_390 rfl (j := 2) rfl ?_
  refine gd_bipush hC dL_refused_391 rfl ?_
  refine gd_iconst hC dL_refused_393 ?_
  refine gd_iconst hC dL_refused_394 ?_
  refine gd_iconst hC dL_refused_395 ?_
  refine gd_callC (what := 22) (x := 0) (y := (-1)) (w := 0) (rest := []) hl9 hC hF (c_L_does_gains l hl9 N0 G Y a S 0 0 (-1) ⟨by decide, by decide⟩ ⟨by decide, by decide⟩ hI) (vx_cwSW 5 hts gL_refused_L_call rfl rfl rfl (by decide +kernel) ⟨by decide, by decide⟩) rfl (Nat.le_of_ble_eq_true rfl) dL_refused_396 ⟨Nat.le_of_ble_eq_true rfl, Nat.le_of_ble_eq_true rfl⟩ (fun r S' hr1 hw => ?_)
  rcases hw with ⟨-, hwX, -⟩ | ⟨-, hwX, -⟩ | ⟨hr9, hwX, hS9⟩ | ⟨-, hwX, -⟩
  · exfalso; first | omega | exact hwX
  · exfalso; first | omega | exact hwX
  rotate_left
  · exfalso; first | omega | exact hwX
  rw [hr9, hS9]
  clear hwX hr1 hr9 hS9
  refine gd_ldc hC (n := -2000000002) k20 dL_refused_399 ?_
  refine gd_icmp_ne hC dL_refused_401 (tgt := 418) (by decide) ⟨by decide, by decide⟩ ⟨by decide, by decide⟩ (fun c28 => (by omega)) (fun c28 => ?_)
  refine gd_aload_n hC dL_refused_404 rfl (j := 2) rfl ?_
  refine gd_aload_n hC dL_refused_405 rfl (j := 3) rfl ?_
  refine gd_callS (K := 480) (As := [.ref (a 0), .ref ad]) (rest := []) hC hF (fun _ => c_L_all l hl9 N0 G Y a S q ad D hq hd hI) (va_cwS 2 hts gL_refused_L_all rfl rfl rfl (by decide +kernel) ⟨by decide, by decide⟩) rfl rfl (Nat.le_of_ble_eq_true rfl) dL_refused_406 ⟨Nat.le_of_ble_eq_true rfl, Nat.le_of_ble_eq_true rfl⟩ (fun _ _ h => h.elim) (fun v9 S9 h9 => ?_)
  obtain ⟨hv9, hS9⟩ := h9
  rw [hv9, hS9]
  clear hv9 hS9
  refine gd_lload_n hC dL_refused_409 rfl (j := 1) rfl ?_
  refine gd_lcmpS hC dL_refused_410 ?_
  refine gd_if_ne hC dL_refused_411 (tgt := 418) (by decide) ⟨by decide, by decide⟩ (fun c29 => (by omega)) (fun c29 => ?_)
  refine gd_iconst hC dL_refused_414 ?_
  refine gd_goto hC dL_refused_415 (tgt := 419) (by decide) ?_
  exact gd_ireturn hC hr rfl hlk dL_refused_419 (Nat.le_of_ble_eq_true rfl) ⟨_, ⟨by decide, by decide⟩, rfl, rfl, rfl, trivial⟩
