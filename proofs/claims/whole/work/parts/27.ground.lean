theorem ofF_fin (gn : Nat → Int) {p pu k : Nat} (g : Int) (h : k = p ∨ (pu < p ∧ k = pu + 1)) : ofF gn p g k pu = ofF gn p g p pu := by
  funext m
  unfold ofF
  rcases h with rfl | h
  · rfl
  · rw [if_neg (by omega), if_neg (by omega)]
theorem ofF_x (gn : Nat → Int) {p pu : Nat} (g : Int) (h : pu < p) : gn = ofF gn p g p pu := by
  funext m
  unfold ofF
  rw [if_neg (by omega)]
theorem fm_1 {a : Int} (h : 0 ≤ a) : some (zJ (Int.tmod a 4096)) = some (zJ (a % 4096)) := by rw [Int.tmod_eq_emod_of_nonneg h]
theorem tm_neg {a : Int} (h : a < 0) : Int.tmod a 4096 = -((-a) % 4096) := by
  have e := Int.neg_tmod (-a) 4096
  rw [Int.neg_neg] at e
  rw [e, Int.tmod_eq_emod_of_nonneg (by omega)]
theorem fm_2 {a : Int} (h : a < 0) (h2 : Int.tmod a 4096 = 0) : some (zJ (Int.tmod a 4096)) = some (zJ (a % 4096)) := by
  rw [tm_neg h] at h2 ⊢
  congr 2
  omega
theorem fm_3 {a : Int} (h : a < 0) (h2 : Int.tmod a 4096 ≠ 0) : some (zJ (Int.tmod a 4096 + 4096)) = some (zJ (a % 4096)) := by
  rw [tm_neg h] at h2 ⊢
  congr 2
  omega

set_option maxRecDepth 100000 in
set_option maxHeartbeats 4000000 in
theorem t_X2_build {nx : Nat} {h : Nat → Option PC} {hn : Nat} {hs : Nat → Nat → Int} {kd : Nat → Nat} {dm : Nat → Nat → Int} {ln : Nat} {lw : Nat → Nat → Int} {gn : Nat → Int} {x : Int} {y : Int} {k : Int} {w : Int} {p : Int} (hG : isG h hn hs kd dm ln lw gn) (hH : okH hn hs kd) (hD : okD dm) (hL : okL ln lw) (h12 : hn < 12) : Cx 0 (0, 0) yX2_build cX2_build 6 (some .int) [zR 48, zI x, zI y, zI k, zI w, zI p] nx h (Rt (zI ((((hn : Nat) : Int) + 1) - 1)) nx [(49, oA 0 12 (fup (hs 0) hn x)), (50, oA 0 12 (fup (hs 1) hn y)), (51, oA 0 12 (fup (fun u => ((kd u : Nat) : Int)) hn k)), (52, oA 0 12 (fup (hs 2) hn w)), (53, oA 0 12 (fup (hs 3) hn p)), (48, oO 2 [zI (((hn : Nat) : Int) + 1), zR 49, zR 50, zR 51, zR 52, zR 53, zR 54, zI ((ln : Nat) : Int), zR 59, zR 60, zR 61, zR 62, zR 63])]) := by
  refine cx_of pnX2_build (Nat.le_of_ble_eq_true rfl) ?_
  intro K G hr hnm hR
  obtain ⟨h48, h49, h50, h51, h52, h53, h54, h55, h56, h57, h58, h59, h60, h61, h62, h63⟩ := id hG
  have hn12 := hH.1
  have ln12 := hL.1
  show Wp K 6 (Mx K h (Rt (zI ((((hn : Nat) : Int) + 1) - 1)) nx [(49, oA 0 12 (fup (hs 0) hn x)), (50, oA 0 12 (fup (hs 1) hn y)), (51, oA 0 12 (fup (fun u => ((kd u : Nat) : Int)) hn k)), (52, oA 0 12 (fup (hs 2) hn w)), (53, oA 0 12 (fup (hs 3) hn p)), (48, oO 2 [zI (((hn : Nat) : Int) + 1), zR 49, zR 50, zR 51, zR 52, zR 53, zR 54, zI ((ln : Nat) : Int), zR 59, zR 60, zR 61, zR 62, zR 63])]) (0, 0)) (0, 0) 0 [(0, zR 48), (1, zI x), (2, zI y), (3, zI k), (4, zI w), (5, zI p)] [] (nx, h, [])
  refine wp_aload_n G 0 dX2_build_0 rfl ?_
  refine wp_get G 1 cOk2 fX2_15 dX2_build_1 h48 rfl ?_
  refine wp_aload_n G 0 dX2_build_4 rfl ?_
  refine wp_get G 0 cOk2 fX2_9 dX2_build_5 h48 rfl ?_
  refine wp_iload_n G 1 dX2_build_8 rfl ?_
  refine wp_iastE (j := hn) (hp2 := (nx, h, [(49, oA 0 12 (fup (hs 0) hn x))])) G dX2_build_9 h49 rfl (by omega) (by decide) rfl ?_
  refine wp_aload_n G 0 dX2_build_10 rfl ?_
  refine wp_get G 2 cOk2 fX2_19 dX2_build_11 h48 rfl ?_
  refine wp_aload_n G 0 dX2_build_14 rfl ?_
  refine wp_get G 0 cOk2 fX2_9 dX2_build_15 h48 rfl ?_
  refine wp_iload_n G 2 dX2_build_18 rfl ?_
  refine wp_iastE (j := hn) (hp2 := (nx, h, [(49, oA 0 12 (fup (hs 0) hn x)), (50, oA 0 12 (fup (hs 1) hn y))])) G dX2_build_19 h50 rfl (by omega) (by decide) rfl ?_
  refine wp_aload_n G 0 dX2_build_20 rfl ?_
  refine wp_get G 3 cOk2 fX2_22 dX2_build_21 h48 rfl ?_
  refine wp_aload_n G 0 dX2_build_24 rfl ?_
  refine wp_get G 0 cOk2 fX2_9 dX2_build_25 h48 rfl ?_
  refine wp_iload_n G 3 dX2_build_28 rfl ?_
  refine wp_iastE (j := hn) (hp2 := (nx, h, [(49, oA 0 12 (fup (hs 0) hn x)), (50, oA 0 12 (fup (hs 1) hn y)), (51, oA 0 12 (fup (fun u => ((kd u : Nat) : Int)) hn k))])) G dX2_build_29 h51 rfl (by omega) (by decide) rfl ?_
  refine wp_aload_n G 0 dX2_build_30 rfl ?_
  refine wp_get G 4 cOk2 fX2_25 dX2_build_31 h48 rfl ?_
  refine wp_aload_n G 0 dX2_build_34 rfl ?_
  refine wp_get G 0 cOk2 fX2_9 dX2_build_35 h48 rfl ?_
  refine wp_iload G 4 dX2_build_38 rfl ?_
  refine wp_iastE (j := hn) (hp2 := (nx, h, [(49, oA 0 12 (fup (hs 0) hn x)), (50, oA 0 12 (fup (hs 1) hn y)), (51, oA 0 12 (fup (fun u => ((kd u : Nat) : Int)) hn k)), (52, oA 0 12 (fup (hs 2) hn w))])) G dX2_build_40 h52 rfl (by omega) (by decide) rfl ?_
  refine wp_aload_n G 0 dX2_build_41 rfl ?_
  refine wp_get G 5 cOk2 fX2_28 dX2_build_42 h48 rfl ?_
  refine wp_aload_n G 0 dX2_build_45 rfl ?_
  refine wp_get G 0 cOk2 fX2_9 dX2_build_46 h48 rfl ?_
  refine wp_iload G 5 dX2_build_49 rfl ?_
  refine wp_iastE (j := hn) (hp2 := (nx, h, [(49, oA 0 12 (fup (hs 0) hn x)), (50, oA 0 12 (fup (hs 1) hn y)), (51, oA 0 12 (fup (fun u => ((kd u : Nat) : Int)) hn k)), (52, oA 0 12 (fup (hs 2) hn w)), (53, oA 0 12 (fup (hs 3) hn p))])) G dX2_build_51 h53 rfl (by omega) (by decide) rfl ?_
  refine wp_aload_n G 0 dX2_build_52 rfl ?_
  refine wp_dup G rfl dX2_build_53 ?_
  refine wp_get G 0 cOk2 fX2_9 dX2_build_54 h48 rfl ?_
  refine wp_iconst G dX2_build_57 ?_
  refine wp_iadd G dX2_build_58 ?_
  refine wp_putE (hp2 := (nx, h, [(49, oA 0 12 (fup (hs 0) hn x)), (50, oA 0 12 (fup (hs 1) hn y)), (51, oA 0 12 (fup (fun u => ((kd u : Nat) : Int)) hn k)), (52, oA 0 12 (fup (hs 2) hn w)), (53, oA 0 12 (fup (hs 3) hn p)), (48, oO 2 [zI (((hn : Nat) : Int) + 1), zR 49, zR 50, zR 51, zR 52, zR 53, zR 54, zI ((ln : Nat) : Int), zR 59, zR 60, zR 61, zR 62, zR 63])])) G 0 cOk2 fX2_9 dX2_build_59 h48 (Nat.le_of_ble_eq_true rfl) (fit_int _) (fun _ e => by cases e; rfl) rfl ?_
  refine wp_aload_n G 0 dX2_build_62 rfl ?_
  refine wp_get G 0 cOk2 fX2_9 dX2_build_63 rfl rfl ?_
  refine wp_iconst G dX2_build_66 ?_
  refine wp_isub G dX2_build_67 ?_
  exact wp_ireturn G hr dX2_build_68 ⟨by rfl, rfl, by rfl⟩

set_option maxRecDepth 100000 in
set_option maxHeartbeats 4000000 in
theorem t_X2_enact {nx : Nat} {h : Nat → Option PC} {hn : Nat} {hs : Nat → Nat → Int} {kd : Nat → Nat} {dm : Nat → Nat → Int} {ln : Nat} {lw : Nat → Nat → Int} {gn : Nat → Int} {x : Int} {y : Int} {k : Int} {w : Int} (hG : isG h hn hs kd dm ln lw gn) (hH : okH hn hs kd) (hD : okD dm) (hL : okL ln lw) (h12 : ln < 12) : Cx 0 (0, 0) yX2_enact cX2_enact 5 (some .int) [zR 48, zI x, zI y, zI k, zI w] nx h (Rt (zI (((ln : Nat) : Int) + 1)) nx [(59, oA 0 12 (fup (lw 0) ln x)), (60, oA 0 12 (fup (lw 1) ln y)), (61, oA 0 12 (fup (lw 2) ln k)), (62, oA 0 12 (fup (lw 3) ln w)), (48, oO 2 [zI ((hn : Nat) : Int), zR 49, zR 50, zR 51, zR 52, zR 53, zR 54, zI (((ln : Nat) : Int) + 1), zR 59, zR 60, zR 61, zR 62, zR 63])]) := by
  refine cx_of pnX2_enact (Nat.le_of_ble_eq_true rfl) ?_
  intro K G hr hnm hR
  obtain ⟨h48, h49, h50, h51, h52, h53, h54, h55, h56, h57, h58, h59, h60, h61, h62, h63⟩ := id hG
  have hn12 := hH.1
  have ln12 := hL.1
  show Wp K 5 (Mx K h (Rt (zI (((ln : Nat) : Int) + 1)) nx [(59, oA 0 12 (fup (lw 0) ln x)), (60, oA 0 12 (fup (lw 1) ln y)), (61, oA 0 12 (fup (lw 2) ln k)), (62, oA 0 12 (fup (lw 3) ln w)), (48, oO 2 [zI ((hn : Nat) : Int), zR 49, zR 50, zR 51, zR 52, zR 53, zR 54, zI (((ln : Nat) : Int) + 1), zR 59, zR 60, zR 61, zR 62, zR 63])]) (0, 0)) (0, 0) 0 [(0, zR 48), (1, zI x), (2, zI y), (3, zI k), (4, zI w)] [] (nx, h, [])
  refine wp_aload_n G 0 dX2_enact_0 rfl ?_
  refine wp_get G 8 cOk2 fX2_39 dX2_enact_1 h48 rfl ?_
  refine wp_aload_n G 0 dX2_enact_4 rfl ?_
  refine wp_get G 7 cOk2 fX2_36 dX2_enact_5 h48 rfl ?_
  refine wp_iload_n G 1 dX2_enact_8 rfl ?_
  refine wp_iastE (j := ln) (hp2 := (nx, h, [(59, oA 0 12 (fup (lw 0) ln x))])) G dX2_enact_9 h59 rfl (by omega) (by decide) rfl ?_
  refine wp_aload_n G 0 dX2_enact_10 rfl ?_
  refine wp_get G 9 cOk2 fX2_42 dX2_enact_11 h48 rfl ?_
  refine wp_aload_n G 0 dX2_enact_14 rfl ?_
  refine wp_get G 7 cOk2 fX2_36 dX2_enact_15 h48 rfl ?_
  refine wp_iload_n G 2 dX2_enact_18 rfl ?_
  refine wp_iastE (j := ln) (hp2 := (nx, h, [(59, oA 0 12 (fup (lw 0) ln x)), (60, oA 0 12 (fup (lw 1) ln y))])) G dX2_enact_19 h60 rfl (by omega) (by decide) rfl ?_
  refine wp_aload_n G 0 dX2_enact_20 rfl ?_
  refine wp_get G 10 cOk2 fX2_45 dX2_enact_21 h48 rfl ?_
  refine wp_aload_n G 0 dX2_enact_24 rfl ?_
  refine wp_get G 7 cOk2 fX2_36 dX2_enact_25 h48 rfl ?_
  refine wp_iload_n G 3 dX2_enact_28 rfl ?_
  refine wp_iastE (j := ln) (hp2 := (nx, h, [(59, oA 0 12 (fup (lw 0) ln x)), (60, oA 0 12 (fup (lw 1) ln y)), (61, oA 0 12 (fup (lw 2) ln k))])) G dX2_enact_29 h61 rfl (by omega) (by decide) rfl ?_
  refine wp_aload_n G 0 dX2_enact_30 rfl ?_
  refine wp_get G 11 cOk2 fX2_48 dX2_enact_31 h48 rfl ?_
  refine wp_aload_n G 0 dX2_enact_34 rfl ?_
  refine wp_get G 7 cOk2 fX2_36 dX2_enact_35 h48 rfl ?_
  refine wp_iload G 4 dX2_enact_38 rfl ?_
  refine wp_iastE (j := ln) (hp2 := (nx, h, [(59, oA 0 12 (fup (lw 0) ln x)), (60, oA 0 12 (fup (lw 1) ln y)), (61, oA 0 12 (fup (lw 2) ln k)), (62, oA 0 12 (fup (lw 3) ln w))])) G dX2_enact_40 h62 rfl (by omega) (by decide) rfl ?_
  refine wp_aload_n G 0 dX2_enact_41 rfl ?_
  refine wp_dup G rfl dX2_enact_42 ?_
  refine wp_get G 7 cOk2 fX2_36 dX2_enact_43 h48 rfl ?_
  refine wp_iconst G dX2_enact_46 ?_
  refine wp_iadd G dX2_enact_47 ?_
  refine wp_putE (hp2 := (nx, h, [(59, oA 0 12 (fup (lw 0) ln x)), (60, oA 0 12 (fup (lw 1) ln y)), (61, oA 0 12 (fup (lw 2) ln k)), (62, oA 0 12 (fup (lw 3) ln w)), (48, oO 2 [zI ((hn : Nat) : Int), zR 49, zR 50, zR 51, zR 52, zR 53, zR 54, zI (((ln : Nat) : Int) + 1), zR 59, zR 60, zR 61, zR 62, zR 63])])) G 7 cOk2 fX2_36 dX2_enact_48 h48 (Nat.le_of_ble_eq_true rfl) (fit_int _) (fun _ e => by cases e; rfl) rfl ?_
  refine wp_aload_n G 0 dX2_enact_51 rfl ?_
  refine wp_get G 7 cOk2 fX2_36 dX2_enact_52 rfl rfl ?_
  exact wp_ireturn G hr dX2_enact_55 ⟨by rfl, rfl, by rfl⟩

set_option maxRecDepth 100000 in
set_option maxHeartbeats 4000000 in
theorem t_X2_lossOfHouse {nx : Nat} {h : Nat → Option PC} {hn : Nat} {hs : Nat → Nat → Int} {kd : Nat → Nat} {dm : Nat → Nat → Int} {ln : Nat} {lw : Nat → Nat → Int} {gn : Nat → Int} {u : Nat} {k : Nat} {x : Int} {y : Int} {g : Int} {f : Int} (hG : isG h hn hs kd dm ln lw gn) (hH : okH hn hs kd) (hD : okD dm) (hL : okL ln lw) (hu : u < hn) (hk : k < 4) (hx : 0 ≤ x ∧ x ≤ 15) (hy : 0 ≤ y ∧ y ≤ 15) (hg : 0 ≤ g ∧ g ≤ 90) (hf : 0 ≤ f ∧ f ≤ 20) : Cx 2 (0, 0) yX2_lossOfHouse cX2_lossOfHouse 8 (some .int) [zR 48, zI ((u : Nat) : Int), zI ((k : Nat) : Int), zI x, zI y, zI g, zI f] nx h (Rt (zI (lsH hs dm u k x y g f)) nx []) := by
  refine cx_of pnX2_lossOfHouse (Nat.le_of_ble_eq_true rfl) ?_
  intro K G hr hnm hR
  obtain ⟨h48, h49, h50, h51, h52, h53, h54, h55, h56, h57, h58, h59, h60, h61, h62, h63⟩ := id hG
  have hn12 := hH.1
  have ln12 := hL.1
  have hsb := shk_b hH hu hx hy hg hf
  have hsb2 := hsb.2
  unfold shk at hsb2
  have hhx := hH.2.1 u hu
  have hhy := hH.2.2.1 u hu
  show Wp K 8 (Mx K h (Rt (zI (lsH hs dm u k x y g f)) nx []) (0, 0)) (0, 0) 0 [(0, zR 48), (1, zI ((u : Nat) : Int)), (2, zI ((k : Nat) : Int)), (3, zI x), (4, zI y), (5, zI g), (6, zI f)] [] (nx, h, [])
  refine wp_iconst G dX2_lossOfHouse_0 ?_
  refine wp_iload G 5 dX2_lossOfHouse_1 rfl ?_
  refine wp_iload G 6 dX2_lossOfHouse_3 rfl ?_
  refine wp_iload_n G 3 dX2_lossOfHouse_5 rfl ?_
  refine wp_iload G 4 dX2_lossOfHouse_6 rfl ?_
  refine wp_aload_n G 0 dX2_lossOfHouse_8 rfl ?_
  refine wp_get G 1 cOk2 fX2_15 dX2_lossOfHouse_9 h48 rfl ?_
  refine wp_iload_n G 1 dX2_lossOfHouse_12 rfl ?_
  refine wp_iald (j := u) G dX2_lossOfHouse_13 h49 rfl (by omega) (by decide) ?_
  have rrq1 := hH.2.1 u (by omega)
  refine wp_aload_n G 0 dX2_lossOfHouse_14 rfl ?_
  refine wp_get G 2 cOk2 fX2_19 dX2_lossOfHouse_15 h48 rfl ?_
  refine wp_iload_n G 1 dX2_lossOfHouse_18 rfl ?_
  refine wp_iald (j := u) G dX2_lossOfHouse_19 h50 rfl (by omega) (by decide) ?_
  have rrq2 := hH.2.2.1 u (by omega)
  refine wp_cSE (as := [zI x, zI y, zI ((hs 0) u), zI ((hs 1) u)]) (rest := [zI f, zI g, zI 0]) (hp2 := (nx, h, [])) G mX9_howFar lX2_55 sX9_howFar dX2_lossOfHouse_20 rfl rfl (Nat.le_of_ble_eq_true rfl) (rmx_ok hR (by decide) (by decide) (by decide) (by decide)) (t_X9_howFar (nx := nx) (a := x) (b := y) (c := (hs 0 u)) (e := (hs 1 u)) hx hy hhx hhy) rfl ?_
  refine wp_imul G dX2_lossOfHouse_23 ?_
  refine wp_isub G dX2_lossOfHouse_24 ?_
  refine wp_mmax G (by omega) (by omega) lX2_59 sJ9_max_7cf53 mJ9_max_7cf53.1 mJ9_max_7cf53.2.1 dX2_lossOfHouse_25 (Nat.le_of_ble_eq_true rfl) (rmx_ok (maxL := 2) hR (by decide) (by decide) (by decide) (by decide)) ?_
  refine wp_istore (lv' := [(7, zI (max 0 (g - (f * farZ x y (hs 0 u) (hs 1 u))))), (0, zR 48), (1, zI ((u : Nat) : Int)), (2, zI ((k : Nat) : Int)), (3, zI x), (4, zI y), (5, zI g), (6, zI f)]) G dX2_lossOfHouse_28 (by decide) rfl ?_
  refine wp_aload_n G 1 dX2_lossOfHouse_30 rfl ?_
  refine wp_get G 4 cOk2 fX2_25 dX2_lossOfHouse_31 h48 rfl ?_
  refine wp_iload_n G 2 dX2_lossOfHouse_34 rfl ?_
  refine wp_iald (j := u) G dX2_lossOfHouse_35 h52 rfl (by omega) (by decide) ?_
  have rrq3 := hH.2.2.2.1 u (by omega)
  refine wp_aload_n G 1 dX2_lossOfHouse_36 rfl ?_
  refine wp_get G 6 cOk2 fX2_33 dX2_lossOfHouse_37 h48 rfl ?_
  refine wp_iload_n G 3 dX2_lossOfHouse_40 rfl ?_
  rcases (show k = 0 ∨ k = 1 ∨ k = 2 ∨ k = 3 by omega) with rfl | rfl | rfl | rfl
  · skip
    refine wp_aald (j := 0) G (by decide) (by decide) dX2_lossOfHouse_41 h54 rfl (by decide) (by decide) ?_
    show Wp K 8 (Mx K h (Rt (zI (lsH hs dm u 0 x y g f)) nx []) (0, 0)) (0, 0) 42 [(7, zI (max 0 (g - (f * farZ x y (hs 0 u) (hs 1 u))))), (0, zR 48), (1, zI ((u : Nat) : Int)), (2, zI ((0 : Nat) : Int)), (3, zI x), (4, zI y), (5, zI g), (6, zI f)] [zR 55, zI ((hs 2) u)] (nx, h, [])
    refine wp_iload G 0 dX2_lossOfHouse_42 rfl ?_
    refine wp_bipush G dX2_lossOfHouse_44 (by decide) ?_
    refine wp_idiv G (by omega) (by omega) (by omega) (by omega) dX2_lossOfHouse_46 ?_
    refine wp_iald (j := (((max 0 (g - (f * farZ x y (hs 0 u) (hs 1 u)))) / 10)).toNat) G dX2_lossOfHouse_47 h55 (by omega) (by omega) (by decide) ?_
    have rrq4 := (hD 0 (by decide)) ((((max 0 (g - (f * farZ x y (hs 0 u) (hs 1 u)))) / 10)).toNat) (by omega)
    refine wp_imul G dX2_lossOfHouse_48 ?_
    refine wp_bipush G dX2_lossOfHouse_49 (by decide) ?_
    have hml := mul_b (hH.2.2.2.1 u hu) (hD 0 (by decide) ((max 0 (g - f * farZ x y (hs 0 u) (hs 1 u)) / 10).toNat) (by omega))
    refine wp_idiv G hml.1 (by omega) (by omega) (by omega) dX2_lossOfHouse_51 ?_
    exact wp_ireturn G hr dX2_lossOfHouse_52 ⟨by rfl, rfl, by rfl⟩
  · skip
    refine wp_aald (j := 1) G (by decide) (by decide) dX2_lossOfHouse_41 h54 rfl (by decide) (by decide) ?_
    show Wp K 8 (Mx K h (Rt (zI (lsH hs dm u 1 x y g f)) nx []) (0, 0)) (0, 0) 42 [(7, zI (max 0 (g - (f * farZ x y (hs 0 u) (hs 1 u))))), (0, zR 48), (1, zI ((u : Nat) : Int)), (2, zI ((1 : Nat) : Int)), (3, zI x), (4, zI y), (5, zI g), (6, zI f)] [zR 56, zI ((hs 2) u)] (nx, h, [])
    refine wp_iload G 0 dX2_lossOfHouse_42 rfl ?_
    refine wp_bipush G dX2_lossOfHouse_44 (by decide) ?_
    refine wp_idiv G (by omega) (by omega) (by omega) (by omega) dX2_lossOfHouse_46 ?_
    refine wp_iald (j := (((max 0 (g - (f * farZ x y (hs 0 u) (hs 1 u)))) / 10)).toNat) G dX2_lossOfHouse_47 h56 (by omega) (by omega) (by decide) ?_
    have rrq5 := (hD 1 (by decide)) ((((max 0 (g - (f * farZ x y (hs 0 u) (hs 1 u)))) / 10)).toNat) (by omega)
    refine wp_imul G dX2_lossOfHouse_48 ?_
    refine wp_bipush G dX2_lossOfHouse_49 (by decide) ?_
    have hml := mul_b (hH.2.2.2.1 u hu) (hD 1 (by decide) ((max 0 (g - f * farZ x y (hs 0 u) (hs 1 u)) / 10).toNat) (by omega))
    refine wp_idiv G hml.1 (by omega) (by omega) (by omega) dX2_lossOfHouse_51 ?_
    exact wp_ireturn G hr dX2_lossOfHouse_52 ⟨by rfl, rfl, by rfl⟩
  · skip
    refine wp_aald (j := 2) G (by decide) (by decide) dX2_lossOfHouse_41 h54 rfl (by decide) (by decide) ?_
    show Wp K 8 (Mx K h (Rt (zI (lsH hs dm u 2 x y g f)) nx []) (0, 0)) (0, 0) 42 [(7, zI (max 0 (g - (f * farZ x y (hs 0 u) (hs 1 u))))), (0, zR 48), (1, zI ((u : Nat) : Int)), (2, zI ((2 : Nat) : Int)), (3, zI x), (4, zI y), (5, zI g), (6, zI f)] [zR 57, zI ((hs 2) u)] (nx, h, [])
    refine wp_iload G 0 dX2_lossOfHouse_42 rfl ?_
    refine wp_bipush G dX2_lossOfHouse_44 (by decide) ?_
    refine wp_idiv G (by omega) (by omega) (by omega) (by omega) dX2_lossOfHouse_46 ?_
    refine wp_iald (j := (((max 0 (g - (f * farZ x y (hs 0 u) (hs 1 u)))) / 10)).toNat) G dX2_lossOfHouse_47 h57 (by omega) (by omega) (by decide) ?_
    have rrq6 := (hD 2 (by decide)) ((((max 0 (g - (f * farZ x y (hs 0 u) (hs 1 u)))) / 10)).toNat) (by omega)
    refine wp_imul G dX2_lossOfHouse_48 ?_
    refine wp_bipush G dX2_lossOfHouse_49 (by decide) ?_
    have hml := mul_b (hH.2.2.2.1 u hu) (hD 2 (by decide) ((max 0 (g - f * farZ x y (hs 0 u) (hs 1 u)) / 10).toNat) (by omega))
    refine wp_idiv G hml.1 (by omega) (by omega) (by omega) dX2_lossOfHouse_51 ?_
    exact wp_ireturn G hr dX2_lossOfHouse_52 ⟨by rfl, rfl, by rfl⟩
  · skip
    refine wp_aald (j := 3) G (by decide) (by decide) dX2_lossOfHouse_41 h54 rfl (by decide) (by decide) ?_
    show Wp K 8 (Mx K h (Rt (zI (lsH hs dm u 3 x y g f)) nx []) (0, 0)) (0, 0) 42 [(7, zI (max 0 (g - (f * farZ x y (hs 0 u) (hs 1 u))))), (0, zR 48), (1, zI ((u : Nat) : Int)), (2, zI ((3 : Nat) : Int)), (3, zI x), (4, zI y), (5, zI g), (6, zI f)] [zR 58, zI ((hs 2) u)] (nx, h, [])
    refine wp_iload G 0 dX2_lossOfHouse_42 rfl ?_
    refine wp_bipush G dX2_lossOfHouse_44 (by decide) ?_
    refine wp_idiv G (by omega) (by omega) (by omega) (by omega) dX2_lossOfHouse_46 ?_
    refine wp_iald (j := (((max 0 (g - (f * farZ x y (hs 0 u) (hs 1 u)))) / 10)).toNat) G dX2_lossOfHouse_47 h58 (by omega) (by omega) (by decide) ?_
    have rrq7 := (hD 3 (by decide)) ((((max 0 (g - (f * farZ x y (hs 0 u) (hs 1 u)))) / 10)).toNat) (by omega)
    refine wp_imul G dX2_lossOfHouse_48 ?_
    refine wp_bipush G dX2_lossOfHouse_49 (by decide) ?_
    have hml := mul_b (hH.2.2.2.1 u hu) (hD 3 (by decide) ((max 0 (g - f * farZ x y (hs 0 u) (hs 1 u)) / 10).toNat) (by omega))
    refine wp_idiv G hml.1 (by omega) (by omega) (by omega) dX2_lossOfHouse_51 ?_
    exact wp_ireturn G hr dX2_lossOfHouse_52 ⟨by rfl, rfl, by rfl⟩

set_option maxRecDepth 100000 in
set_option maxHeartbeats 4000000 in
theorem t_X2_lossInAll {nx : Nat} {h : Nat → Option PC} {hn : Nat} {hs : Nat → Nat → Int} {kd : Nat → Nat} {dm : Nat → Nat → Int} {ln : Nat} {lw : Nat → Nat → Int} {gn : Nat → Int} {s : Nat} {x : Int} {y : Int} {g : Int} {f : Int} (hG : isG h hn hs kd dm ln lw gn) (hH : okH hn hs kd) (hD : okD dm) (hL : okL ln lw) (h4 : s < 4096) (hx : 0 ≤ x ∧ x ≤ 15) (hy : 0 ≤ y ∧ y ≤ 15) (hg : 0 ≤ g ∧ g ≤ 90) (hf : 0 ≤ f ∧ f ≤ 20) : Cx 3 (0, 0) yX2_lossInAll cX2_lossInAll 9 (some .int) [zR 48, zI x, zI y, zI g, zI ((s : Nat) : Int), zI f] nx h (Rt (zI (lsA hn hs kd dm x y g s f)) nx []) := by
  refine cx_of pnX2_lossInAll (Nat.le_of_ble_eq_true rfl) ?_
  intro K G hr hnm hR
  obtain ⟨h48, h49, h50, h51, h52, h53, h54, h55, h56, h57, h58, h59, h60, h61, h62, h63⟩ := id hG
  have hn12 := hH.1
  have ln12 := hL.1
  show Wp K 9 (Mx K h (Rt (zI (lsA hn hs kd dm x y g s f)) nx []) (0, 0)) (0, 0) 0 [(0, zR 48), (1, zI x), (2, zI y), (3, zI g), (4, zI ((s : Nat) : Int)), (5, zI f)] [] (nx, h, [])
  refine wp_iconst G dX2_lossInAll_0 ?_
  refine wp_istore (lv' := [(6, zI 0), (0, zR 48), (1, zI x), (2, zI y), (3, zI g), (4, zI ((s : Nat) : Int)), (5, zI f)]) G dX2_lossInAll_1 (by decide) rfl ?_
  refine wp_iconst G dX2_lossInAll_3 ?_
  refine wp_istore (lv' := [(7, zI 0), (6, zI 0), (0, zR 48), (1, zI x), (2, zI y), (3, zI g), (4, zI ((s : Nat) : Int)), (5, zI f)]) G dX2_lossInAll_4 (by decide) rfl ?_
  refine wp_lv [2, 3, 4, 5, 6, 7, 1, 0] rfl ?_
  suffices lp6 : ∀ (fu : Nat) (u : Nat) (v6 : Int) (v7 : Int), hn - u < fu → (v6 = sumZ (fun u => lsH hs dm u (asK kd s u) x y g f) u) → (v7 = ((u : Nat) : Int)) → (u ≤ hn) → Wp K 9 (Mx K h (Rt (zI (lsA hn hs kd dm x y g s f)) nx []) (0, 0)) (0, 0) 6 [(0, zR 48), (1, zI x), (2, zI y), (3, zI g), (4, zI ((s : Nat) : Int)), (5, zI f), (6, zI v6), (7, zI v7)] [] (nx, h, []) from lp6 _ 0 0 0 (Nat.lt_succ_self _) (by rfl) (by omega) (by omega)
  intro fu
  induction fu with
  | zero => intro u v6 v7 hm; exact absurd hm (Nat.not_lt_zero _)
  | succ fu ih6 =>
    intro u v6 v7 hm6 e6 e7 hi0
    subst e6
    subst e7
    refine wp_iload G 7 dX2_lossInAll_6 rfl ?_
    refine wp_aload_n G 0 dX2_lossInAll_8 rfl ?_
    refine wp_get G 0 cOk2 fX2_9 dX2_lossInAll_9 h48 rfl ?_
    refine wp_icmp_ge G dX2_lossInAll_12 (by omega) (by omega) (fun kq1 => ?_) (fun kq1 => ?_)
    · skip
      refine wp_iload G 6 dX2_lossInAll_63 rfl ?_
      exact wp_ireturn G hr dX2_lossInAll_65 ⟨by rw [show u = hn by omega]; rfl, rfl, by rfl⟩
    · skip
      refine wp_iload G 4 dX2_lossInAll_15 rfl ?_
      refine wp_iload G 7 dX2_lossInAll_17 rfl ?_
      refine wp_ishr (a := s) (k := u) G rfl rfl (by omega) (by omega) dX2_lossInAll_19 ?_
      have hdl : s / 2 ^ u ≤ s := Nat.div_le_self _ _
      refine wp_iconst G dX2_lossInAll_20 ?_
      refine wp_iand1 (a := s / 2 ^ u) G rfl (by omega) dX2_lossInAll_21 ?_
      refine wp_iconst G dX2_lossInAll_22 ?_
      have hm2 : s / 2 ^ u % 2 < 2 := Nat.mod_lt _ (by omega)
      refine wp_icmp_ne G dX2_lossInAll_23 (by omega) (by omega) (fun kq2 => ?_) (fun kq2 => ?_)
      · skip
        refine wp_aload_n G 0 dX2_lossInAll_30 rfl ?_
        refine wp_get G 3 cOk2 fX2_22 dX2_lossInAll_31 h48 rfl ?_
        refine wp_iload G 7 dX2_lossInAll_34 rfl ?_
        refine wp_iald (j := u) G dX2_lossInAll_36 h51 rfl (by omega) (by decide) ?_
        have rrq1 := hH.2.2.2.2.2 u (by omega)
        refine wp_istore (lv' := [(8, zI ((kd u : Nat) : Int)), (0, zR 48), (1, zI x), (2, zI y), (3, zI g), (4, zI ((s : Nat) : Int)), (5, zI f), (6, zI (sumZ (fun u => lsH hs dm u (asK kd s u) x y g f) u)), (7, zI ((u : Nat) : Int))]) G dX2_lossInAll_37 (by decide) rfl ?_
        refine wp_iload G 7 dX2_lossInAll_39 rfl ?_
        refine wp_aload_n G 1 dX2_lossInAll_41 rfl ?_
        refine wp_iload G 8 dX2_lossInAll_42 rfl ?_
        refine wp_iload G 0 dX2_lossInAll_44 rfl ?_
        refine wp_iload_n G 2 dX2_lossInAll_46 rfl ?_
        refine wp_iload_n G 3 dX2_lossInAll_47 rfl ?_
        refine wp_iload_n G 4 dX2_lossInAll_48 rfl ?_
        refine wp_iload G 6 dX2_lossInAll_49 rfl ?_
        refine wp_cVE (b := 48) (ci := 2) (as := [zI ((u : Nat) : Int), zI ((kd u : Nat) : Int), zI x, zI y, zI g, zI f]) (rest := [zI (sumZ (fun u => lsH hs dm u (asK kd s u) x y g f) u)]) (hp2 := (nx, h, [])) G mX2_lossOfHouse lX2_65 iX2_lossOfHouse eX2_lossOfHouse ⟨_, rfl, rfl⟩ dX2_lossInAll_51 h48 rfl rfl (Nat.le_of_ble_eq_true rfl) (rmx_ok hR (by decide) (by decide) (by decide) (by decide)) (t_X2_lossOfHouse (nx := nx) (u := u) (k := (kd u)) (x := x) (y := y) (g := g) (f := f) hG hH hD hL (by omega) (by omega) hx hy hg hf) rfl ?_
        refine wp_iadd G dX2_lossInAll_54 ?_
        refine wp_istore (lv' := [(6, zI (sumZ (fun u => lsH hs dm u (asK kd s u) x y g f) u + lsH hs dm u (kd u) x y g f)), (8, zI ((kd u : Nat) : Int)), (0, zR 48), (1, zI x), (2, zI y), (3, zI g), (4, zI ((s : Nat) : Int)), (5, zI f), (7, zI ((u : Nat) : Int))]) G dX2_lossInAll_55 (by decide) rfl ?_
        refine wp_iinc (lv' := [(7, zI (((u : Nat) : Int) + 1)), (6, zI (sumZ (fun u => lsH hs dm u (asK kd s u) x y g f) u + lsH hs dm u (kd u) x y g f)), (8, zI ((kd u : Nat) : Int)), (0, zR 48), (1, zI x), (2, zI y), (3, zI g), (4, zI ((s : Nat) : Int)), (5, zI f)]) G 8 dX2_lossInAll_57 rfl (by decide) rfl ?_
        refine wp_goto G dX2_lossInAll_60 ?_
        refine wp_lv [3, 4, 5, 6, 7, 8, 1, 0] rfl ?_
        exact ih6 (u + 1) (sumZ (fun u => lsH hs dm u (asK kd s u) x y g f) u + lsH hs dm u (kd u) x y g f) (((u : Nat) : Int) + 1) (by omega) (by rw [sumZ]; unfold asK; first | rw [if_pos (by omega)] | rw [if_neg (by omega)]) (by omega) (by omega)
      · skip
        refine wp_iconst G dX2_lossInAll_26 ?_
        refine wp_goto G dX2_lossInAll_27 ?_
        refine wp_istore (lv' := [(8, zI 3), (0, zR 48), (1, zI x), (2, zI y), (3, zI g), (4, zI ((s : Nat) : Int)), (5, zI f), (6, zI (sumZ (fun u => lsH hs dm u (asK kd s u) x y g f) u)), (7, zI ((u : Nat) : Int))]) G dX2_lossInAll_37 (by decide) rfl ?_
        refine wp_iload G 7 dX2_lossInAll_39 rfl ?_
        refine wp_aload_n G 1 dX2_lossInAll_41 rfl ?_
        refine wp_iload G 8 dX2_lossInAll_42 rfl ?_
        refine wp_iload G 0 dX2_lossInAll_44 rfl ?_
        refine wp_iload_n G 2 dX2_lossInAll_46 rfl ?_
        refine wp_iload_n G 3 dX2_lossInAll_47 rfl ?_
        refine wp_iload_n G 4 dX2_lossInAll_48 rfl ?_
        refine wp_iload G 6 dX2_lossInAll_49 rfl ?_
        refine wp_cVE (b := 48) (ci := 2) (as := [zI ((u : Nat) : Int), zI 3, zI x, zI y, zI g, zI f]) (rest := [zI (sumZ (fun u => lsH hs dm u (asK kd s u) x y g f) u)]) (hp2 := (nx, h, [])) G mX2_lossOfHouse lX2_65 iX2_lossOfHouse eX2_lossOfHouse ⟨_, rfl, rfl⟩ dX2_lossInAll_51 h48 rfl rfl (Nat.le_of_ble_eq_true rfl) (rmx_ok hR (by decide) (by decide) (by decide) (by decide)) (t_X2_lossOfHouse (nx := nx) (u := u) (k := 3) (x := x) (y := y) (g := g) (f := f) hG hH hD hL (by omega) (by omega) hx hy hg hf) rfl ?_
        refine wp_iadd G dX2_lossInAll_54 ?_
        refine wp_istore (lv' := [(6, zI (sumZ (fun u => lsH hs dm u (asK kd s u) x y g f) u + lsH hs dm u 3 x y g f)), (8, zI 3), (0, zR 48), (1, zI x), (2, zI y), (3, zI g), (4, zI ((s : Nat) : Int)), (5, zI f), (7, zI ((u : Nat) : Int))]) G dX2_lossInAll_55 (by decide) rfl ?_
        refine wp_iinc (lv' := [(7, zI (((u : Nat) : Int) + 1)), (6, zI (sumZ (fun u => lsH hs dm u (asK kd s u) x y g f) u + lsH hs dm u 3 x y g f)), (8, zI 3), (0, zR 48), (1, zI x), (2, zI y), (3, zI g), (4, zI ((s : Nat) : Int)), (5, zI f)]) G 8 dX2_lossInAll_57 rfl (by decide) rfl ?_
        refine wp_goto G dX2_lossInAll_60 ?_
        refine wp_lv [3, 4, 5, 6, 7, 8, 1, 0] rfl ?_
        exact ih6 (u + 1) (sumZ (fun u => lsH hs dm u (asK kd s u) x y g f) u + lsH hs dm u 3 x y g f) (((u : Nat) : Int) + 1) (by omega) (by rw [sumZ]; unfold asK; first | rw [if_pos (by omega)] | rw [if_neg (by omega)]) (by omega) (by omega)

set_option maxRecDepth 100000 in
set_option maxHeartbeats 4000000 in
theorem t_X2_lossByQuake {nx : Nat} {h : Nat → Option PC} {n : Nat} {q : Nat → Nat → Int} {o : Nat → Nat} {hn : Nat} {hs : Nat → Nat → Int} {kd : Nat → Nat} {dm : Nat → Nat → Int} {ln : Nat} {lw : Nat → Nat → Int} {gn : Nat → Int} {j : Nat} {f : Int} (hQ : isQ h n q o) (hO : okQ n q o) (hG : isG h hn hs kd dm ln lw gn) (hH : okH hn hs kd) (hD : okD dm) (hL : okL ln lw) (hj : j < n) (hf : 0 ≤ f ∧ f ≤ 20) : Cx 4 (0, 0) yX2_lossByQuake cX2_lossByQuake 4 (some .int) [zR 48, zR 2, zI ((j : Nat) : Int), zI f] nx h (Rt (zI (lsQ hn hs kd dm q j f)) nx []) := by
  refine cx_of pnX2_lossByQuake (Nat.le_of_ble_eq_true rfl) ?_
  intro K G hr hnm hR
  obtain ⟨h2, h3, h4, h5, h6, h7, h8, h9, h10⟩ := id hQ
  have hn40 := hO.1
  obtain ⟨h48, h49, h50, h51, h52, h53, h54, h55, h56, h57, h58, h59, h60, h61, h62, h63⟩ := id hG
  have hn12 := hH.1
  have ln12 := hL.1
  have hxj := hO.x j hj
  have hyj := hO.y j hj
  have hgj := hO.g j hj
  show Wp K 4 (Mx K h (Rt (zI (lsQ hn hs kd dm q j f)) nx []) (0, 0)) (0, 0) 0 [(0, zR 48), (1, zR 2), (2, zI ((j : Nat) : Int)), (3, zI f)] [] (nx, h, [])
  refine wp_aload_n G 0 dX2_lossByQuake_0 rfl ?_
  refine wp_aload_n G 1 dX2_lossByQuake_1 rfl ?_
  refine wp_get G 3 cOk5 fX2_69 dX2_lossByQuake_2 h2 rfl ?_
  refine wp_iload_n G 2 dX2_lossByQuake_5 rfl ?_
  refine wp_iald (j := j) G dX2_lossByQuake_6 h5 rfl (by omega) (by decide) ?_
  have rrq1 := hO.x j (by omega)
  refine wp_aload_n G 1 dX2_lossByQuake_7 rfl ?_
  refine wp_get G 4 cOk5 fX2_74 dX2_lossByQuake_8 h2 rfl ?_
  refine wp_iload_n G 2 dX2_lossByQuake_11 rfl ?_
  refine wp_iald (j := j) G dX2_lossByQuake_12 h6 rfl (by omega) (by decide) ?_
  have rrq2 := hO.y j (by omega)
  refine wp_aload_n G 1 dX2_lossByQuake_13 rfl ?_
  refine wp_get G 5 cOk5 fX2_77 dX2_lossByQuake_14 h2 rfl ?_
  refine wp_iload_n G 2 dX2_lossByQuake_17 rfl ?_
  refine wp_iald (j := j) G dX2_lossByQuake_18 h7 rfl (by omega) (by decide) ?_
  have rrq3 := hO.g j (by omega)
  refine wp_iconst G dX2_lossByQuake_19 ?_
  refine wp_iload_n G 3 dX2_lossByQuake_20 rfl ?_
  refine wp_cVE (b := 48) (ci := 2) (as := [zI ((q 2) j), zI ((q 3) j), zI ((q 4) j), zI 0, zI f]) (rest := []) (hp2 := (nx, h, [])) G mX2_lossInAll lX2_80 iX2_lossInAll eX2_lossInAll ⟨_, rfl, rfl⟩ dX2_lossByQuake_21 h48 rfl rfl (Nat.le_of_ble_eq_true rfl) (rmx_ok hR (by decide) (by decide) (by decide) (by decide)) (t_X2_lossInAll (nx := nx) (x := ((q 2) j)) (y := ((q 3) j)) (g := ((q 4) j)) (f := f) (s := 0) hG hH hD hL (by omega) hxj hyj hgj hf) rfl ?_
  exact wp_ireturn G hr dX2_lossByQuake_24 ⟨by rfl, rfl, by rfl⟩

set_option maxRecDepth 100000 in
set_option maxHeartbeats 4000000 in
theorem t_X2_lossByLaw {nx : Nat} {h : Nat → Option PC} {hn : Nat} {hs : Nat → Nat → Int} {kd : Nat → Nat} {dm : Nat → Nat → Int} {ln : Nat} {lw : Nat → Nat → Int} {gn : Nat → Int} {k : Nat} {s : Nat} {f : Int} (hG : isG h hn hs kd dm ln lw gn) (hH : okH hn hs kd) (hD : okD dm) (hL : okL ln lw) (hk : k < ln) (h4 : s < 4096) (hf : 0 ≤ f ∧ f ≤ 20) : Cx 4 (0, 0) yX2_lossByLaw cX2_lossByLaw 4 (some .int) [zR 48, zI ((k : Nat) : Int), zI ((s : Nat) : Int), zI f] nx h (Rt (zI (lsL hn hs kd dm lw k s f)) nx []) := by
  refine cx_of pnX2_lossByLaw (Nat.le_of_ble_eq_true rfl) ?_
  intro K G hr hnm hR
  obtain ⟨h48, h49, h50, h51, h52, h53, h54, h55, h56, h57, h58, h59, h60, h61, h62, h63⟩ := id hG
  have hn12 := hH.1
  have ln12 := hL.1
  have hxj := hL.2.1 k hk
  have hyj := hL.2.2.1 k hk
  have hgj := hL.2.2.2.1 k hk
  show Wp K 4 (Mx K h (Rt (zI (lsL hn hs kd dm lw k s f)) nx []) (0, 0)) (0, 0) 0 [(0, zR 48), (1, zI ((k : Nat) : Int)), (2, zI ((s : Nat) : Int)), (3, zI f)] [] (nx, h, [])
  refine wp_aload_n G 0 dX2_lossByLaw_0 rfl ?_
  refine wp_aload_n G 0 dX2_lossByLaw_1 rfl ?_
  refine wp_get G 8 cOk2 fX2_39 dX2_lossByLaw_2 h48 rfl ?_
  refine wp_iload_n G 1 dX2_lossByLaw_5 rfl ?_
  refine wp_iald (j := k) G dX2_lossByLaw_6 h59 rfl (by omega) (by decide) ?_
  have rrq1 := hL.2.1 k (by omega)
  refine wp_aload_n G 0 dX2_lossByLaw_7 rfl ?_
  refine wp_get G 9 cOk2 fX2_42 dX2_lossByLaw_8 h48 rfl ?_
  refine wp_iload_n G 1 dX2_lossByLaw_11 rfl ?_
  refine wp_iald (j := k) G dX2_lossByLaw_12 h60 rfl (by omega) (by decide) ?_
  have rrq2 := hL.2.2.1 k (by omega)
  refine wp_aload_n G 0 dX2_lossByLaw_13 rfl ?_
  refine wp_get G 10 cOk2 fX2_45 dX2_lossByLaw_14 h48 rfl ?_
  refine wp_iload_n G 1 dX2_lossByLaw_17 rfl ?_
  refine wp_iald (j := k) G dX2_lossByLaw_18 h61 rfl (by omega) (by decide) ?_
  have rrq3 := hL.2.2.2.1 k (by omega)
  refine wp_iload_n G 2 dX2_lossByLaw_19 rfl ?_
  refine wp_iload_n G 3 dX2_lossByLaw_20 rfl ?_
  refine wp_cVE (b := 48) (ci := 2) (as := [zI ((lw 0) k), zI ((lw 1) k), zI ((lw 2) k), zI ((s : Nat) : Int), zI f]) (rest := []) (hp2 := (nx, h, [])) G mX2_lossInAll lX2_80 iX2_lossInAll eX2_lossInAll ⟨_, rfl, rfl⟩ dX2_lossByLaw_21 h48 rfl rfl (Nat.le_of_ble_eq_true rfl) (rmx_ok hR (by decide) (by decide) (by decide) (by decide)) (t_X2_lossInAll (nx := nx) (x := ((lw 0) k)) (y := ((lw 1) k)) (g := ((lw 2) k)) (s := s) (f := f) hG hH hD hL h4 hxj hyj hgj hf) rfl ?_
  exact wp_ireturn G hr dX2_lossByLaw_24 ⟨by rfl, rfl, by rfl⟩

set_option maxRecDepth 100000 in
set_option maxHeartbeats 4000000 in
theorem t_X2_worstQuake {nx : Nat} {h : Nat → Option PC} {n : Nat} {q : Nat → Nat → Int} {o : Nat → Nat} {hn : Nat} {hs : Nat → Nat → Int} {kd : Nat → Nat} {dm : Nat → Nat → Int} {ln : Nat} {lw : Nat → Nat → Int} {gn : Nat → Int} {b : Int} {f : Int} (hQ : isQ h n q o) (hO : okQ n q o) (hG : isG h hn hs kd dm ln lw gn) (hH : okH hn hs kd) (hD : okD dm) (hL : okL ln lw) (ri_b : r32 b) (hf : 0 ≤ f ∧ f ≤ 20) : Cx 5 (0, 0) yX2_worstQuake cX2_worstQuake 9 (some .int) [zR 48, zR 2, zI b, zI f] nx h (Rt (zI ((wsF o (cnd q (-1) b) (fun j => lsQ hn hs kd dm q j f) n).1)) nx []) := by
  refine cx_of pnX2_worstQuake (Nat.le_of_ble_eq_true rfl) ?_
  intro K G hr hnm hR
  obtain ⟨h2, h3, h4, h5, h6, h7, h8, h9, h10⟩ := id hQ
  have hn40 := hO.1
  obtain ⟨h48, h49, h50, h51, h52, h53, h54, h55, h56, h57, h58, h59, h60, h61, h62, h63⟩ := id hG
  have hn12 := hH.1
  have ln12 := hL.1
  show Wp K 9 (Mx K h (Rt (zI ((wsF o (cnd q (-1) b) (fun j => lsQ hn hs kd dm q j f) n).1)) nx []) (0, 0)) (0, 0) 0 [(0, zR 48), (1, zR 2), (2, zI b), (3, zI f)] [] (nx, h, [])
  refine wp_bipush G dX2_worstQuake_0 (by decide) ?_
  refine wp_istore (lv' := [(4, zI (-6)), (0, zR 48), (1, zR 2), (2, zI b), (3, zI f)]) G dX2_worstQuake_2 (by decide) rfl ?_
  refine wp_iconst G dX2_worstQuake_4 ?_
  refine wp_istore (lv' := [(5, zI (-1)), (4, zI (-6)), (0, zR 48), (1, zR 2), (2, zI b), (3, zI f)]) G dX2_worstQuake_5 (by decide) rfl ?_
  refine wp_iconst G dX2_worstQuake_7 ?_
  refine wp_istore (lv' := [(6, zI 0), (5, zI (-1)), (4, zI (-6)), (0, zR 48), (1, zR 2), (2, zI b), (3, zI f)]) G dX2_worstQuake_8 (by decide) rfl ?_
  refine wp_lv [3, 4, 5, 6, 2, 1, 0] rfl ?_
  suffices lp10 : ∀ (fu : Nat) (k : Nat) (v4 : Int) (v5 : Int) (v6 : Int), n - k < fu → (v4 = (wsF o (cnd q (-1) b) (fun j => lsQ hn hs kd dm q j f) k).1) → (v5 = (wsF o (cnd q (-1) b) (fun j => lsQ hn hs kd dm q j f) k).2) → (v6 = ((k : Nat) : Int)) → (k ≤ n) → Wp K 9 (Mx K h (Rt (zI ((wsF o (cnd q (-1) b) (fun j => lsQ hn hs kd dm q j f) n).1)) nx []) (0, 0)) (0, 0) 10 [(0, zR 48), (1, zR 2), (2, zI b), (3, zI f), (4, zI v4), (5, zI v5), (6, zI v6)] [] (nx, h, []) from lp10 _ 0 (-6) (-1) 0 (Nat.lt_succ_self _) (by rfl) (by rfl) (by omega) (by omega)
  intro fu
  induction fu with
  | zero => intro k v4 v5 v6 hm; exact absurd hm (Nat.not_lt_zero _)
  | succ fu ih10 =>
    intro k v4 v5 v6 hm10 e4 e5 e6 hi0
    subst e4
    subst e5
    subst e6
    have hwb := wsF_b (P := cnd q (-1) b) (L := fun j => lsQ hn hs kd dm q j f) (n := n) (fun r hr => lsQ_b hH hD hO (hO.o r hr) hf) k (by omega)
    have hlb := fun z => lsQ_b (f := f) hH hD hO (hO.o k z) hf
    refine wp_iload G 6 dX2_worstQuake_10 rfl ?_
    refine wp_aload_n G 1 dX2_worstQuake_12 rfl ?_
    refine wp_get G 0 cOk5 fX2_84 dX2_worstQuake_13 h2 rfl ?_
    refine wp_icmp_ge G dX2_worstQuake_16 (by omega) (by omega) (fun kq1 => ?_) (fun kq1 => ?_)
    · skip
      refine wp_iload G 4 dX2_worstQuake_74 rfl ?_
      exact wp_ireturn G hr dX2_worstQuake_76 ⟨by rw [show k = n by omega], rfl, by rfl⟩
    · skip
      refine wp_aload_n G 1 dX2_worstQuake_19 rfl ?_
      refine wp_get G 8 cOk5 fX2_87 dX2_worstQuake_20 h2 rfl ?_
      refine wp_iload G 6 dX2_worstQuake_23 rfl ?_
      refine wp_iald (j := k) G dX2_worstQuake_25 h10 rfl (by omega) (by decide) ?_
      have rrq1 := hO.o k (by omega)
      refine wp_istore (lv' := [(7, zI ((o k : Nat) : Int)), (0, zR 48), (1, zR 2), (2, zI b), (3, zI f), (4, zI ((wsF o (cnd q (-1) b) (fun j => lsQ hn hs kd dm q j f) k).1)), (5, zI ((wsF o (cnd q (-1) b) (fun j => lsQ hn hs kd dm q j f) k).2)), (6, zI ((k : Nat) : Int))]) G dX2_worstQuake_26 (by decide) rfl ?_
      refine wp_aload_n G 2 dX2_worstQuake_28 rfl ?_
      refine wp_iload G 0 dX2_worstQuake_29 rfl ?_
      refine wp_iconst G dX2_worstQuake_31 ?_
      refine wp_iload_n G 3 dX2_worstQuake_32 rfl ?_
      refine wp_cVE (b := 2) (ci := 5) (as := [zI ((o k : Nat) : Int), zI (-1), zI b]) (rest := []) (hp2 := (nx, h, [])) G mX6_isCounted lX2_90 iX6_isCounted eX6_isCounted ⟨_, rfl, rfl⟩ dX2_worstQuake_33 h2 rfl rfl (Nat.le_of_ble_eq_true rfl) (rmx_ok hR (by decide) (by decide) (by decide) (by decide)) (t_X6_isCounted (nx := nx) (j := (o k)) (a := (-1)) (b := b) hQ hO (hO.o k (by omega)) (by omega) ri_b) rfl ?_
      refine wp_ifeq_bt G dX2_worstQuake_36 (fun kq2 => ?_) (fun kq2 => ?_)
      · skip
        refine wp_iconst G dX2_worstQuake_50 ?_
        refine wp_istore (lv' := [(8, zI (-1)), (7, zI ((o k : Nat) : Int)), (0, zR 48), (1, zR 2), (2, zI b), (3, zI f), (4, zI ((wsF o (cnd q (-1) b) (fun j => lsQ hn hs kd dm q j f) k).1)), (5, zI ((wsF o (cnd q (-1) b) (fun j => lsQ hn hs kd dm q j f) k).2)), (6, zI ((k : Nat) : Int))]) G dX2_worstQuake_51 (by decide) rfl ?_
        have hlb2 := hlb (by omega)
        refine wp_iload G 0 dX2_worstQuake_53 rfl ?_
        refine wp_iload G 7 dX2_worstQuake_55 rfl ?_
        refine wp_icmp_le G dX2_worstQuake_57 (by omega) (by omega) (fun kq3 => ?_) (fun kq3 => ?_)
        · skip
          refine wp_iinc (lv' := [(6, zI (((k : Nat) : Int) + 1)), (8, zI (-1)), (7, zI ((o k : Nat) : Int)), (0, zR 48), (1, zR 2), (2, zI b), (3, zI f), (4, zI ((wsF o (cnd q (-1) b) (fun j => lsQ hn hs kd dm q j f) k).1)), (5, zI ((wsF o (cnd q (-1) b) (fun j => lsQ hn hs kd dm q j f) k).2))]) G 8 dX2_worstQuake_68 rfl (by decide) rfl ?_
          refine wp_goto G dX2_worstQuake_71 ?_
          refine wp_lv [3, 4, 5, 6, 7, 8, 0] rfl ?_
          exact ih10 (k + 1) ((wsF o (cnd q (-1) b) (fun j => lsQ hn hs kd dm q j f) k).1) ((wsF o (cnd q (-1) b) (fun j => lsQ hn hs kd dm q j f) k).2) (((k : Nat) : Int) + 1) (by omega) (by first | (exfalso; omega) | (rw [wsF_y (by assumption) (by omega)]; done) | (rw [wsF_n (by intro z; first | exact absurd z.1 (by assumption) | (have := z.2; omega))])) (by first | (exfalso; omega) | (rw [wsF_y (by assumption) (by omega)]; done) | (rw [wsF_n (by intro z; first | exact absurd z.1 (by assumption) | (have := z.2; omega))])) (by omega) (by omega)
        · skip
          refine wp_iload G 0 dX2_worstQuake_60 rfl ?_
          refine wp_istore (lv' := [(5, zI (-1)), (8, zI (-1)), (7, zI ((o k : Nat) : Int)), (0, zR 48), (1, zR 2), (2, zI b), (3, zI f), (4, zI ((wsF o (cnd q (-1) b) (fun j => lsQ hn hs kd dm q j f) k).1)), (6, zI ((k : Nat) : Int))]) G dX2_worstQuake_62 (by decide) rfl ?_
          refine wp_iload G 2 dX2_worstQuake_64 rfl ?_
          refine wp_istore (lv' := [(4, zI ((o k : Nat) : Int)), (5, zI (-1)), (8, zI (-1)), (7, zI ((o k : Nat) : Int)), (0, zR 48), (1, zR 2), (2, zI b), (3, zI f), (6, zI ((k : Nat) : Int))]) G dX2_worstQuake_66 (by decide) rfl ?_
          refine wp_iinc (lv' := [(6, zI (((k : Nat) : Int) + 1)), (4, zI ((o k : Nat) : Int)), (5, zI (-1)), (8, zI (-1)), (7, zI ((o k : Nat) : Int)), (0, zR 48), (1, zR 2), (2, zI b), (3, zI f)]) G 8 dX2_worstQuake_68 rfl (by decide) rfl ?_
          refine wp_goto G dX2_worstQuake_71 ?_
          refine wp_lv [5, 6, 7, 8, 1, 2, 0] rfl ?_
          exact ih10 (k + 1) ((o k : Nat) : Int) (-1) (((k : Nat) : Int) + 1) (by omega) (by first | (exfalso; omega) | (rw [wsF_y (by assumption) (by omega)]; done) | (rw [wsF_n (by intro z; first | exact absurd z.1 (by assumption) | (have := z.2; omega))])) (by first | (exfalso; omega) | (rw [wsF_y (by assumption) (by omega)]; done) | (rw [wsF_n (by intro z; first | exact absurd z.1 (by assumption) | (have := z.2; omega))])) (by omega) (by omega)
      · skip
        refine wp_aload_n G 1 dX2_worstQuake_39 rfl ?_
        refine wp_aload_n G 2 dX2_worstQuake_40 rfl ?_
        refine wp_iload G 0 dX2_worstQuake_41 rfl ?_
        refine wp_iload_n G 4 dX2_worstQuake_43 rfl ?_
        refine wp_cVE (b := 48) (ci := 2) (as := [zR 2, zI ((o k : Nat) : Int), zI f]) (rest := []) (hp2 := (nx, h, [])) G mX2_lossByQuake lX2_94 iX2_lossByQuake eX2_lossByQuake ⟨_, rfl, rfl⟩ dX2_worstQuake_44 h48 rfl rfl (Nat.le_of_ble_eq_true rfl) (rmx_ok hR (by decide) (by decide) (by decide) (by decide)) (t_X2_lossByQuake (nx := nx) (j := (o k)) (f := f) hQ hO hG hH hD hL (hO.o k (by omega)) hf) rfl ?_
        refine wp_goto G dX2_worstQuake_47 ?_
        refine wp_istore (lv' := [(8, zI (lsQ hn hs kd dm q (o k) f)), (7, zI ((o k : Nat) : Int)), (0, zR 48), (1, zR 2), (2, zI b), (3, zI f), (4, zI ((wsF o (cnd q (-1) b) (fun j => lsQ hn hs kd dm q j f) k).1)), (5, zI ((wsF o (cnd q (-1) b) (fun j => lsQ hn hs kd dm q j f) k).2)), (6, zI ((k : Nat) : Int))]) G dX2_worstQuake_51 (by decide) rfl ?_
        have hlb2 := hlb (by omega)
        refine wp_iload G 0 dX2_worstQuake_53 rfl ?_
        refine wp_iload G 7 dX2_worstQuake_55 rfl ?_
        refine wp_icmp_le G dX2_worstQuake_57 (by omega) (by omega) (fun kq4 => ?_) (fun kq4 => ?_)
        · skip
          refine wp_iinc (lv' := [(6, zI (((k : Nat) : Int) + 1)), (8, zI (lsQ hn hs kd dm q (o k) f)), (7, zI ((o k : Nat) : Int)), (0, zR 48), (1, zR 2), (2, zI b), (3, zI f), (4, zI ((wsF o (cnd q (-1) b) (fun j => lsQ hn hs kd dm q j f) k).1)), (5, zI ((wsF o (cnd q (-1) b) (fun j => lsQ hn hs kd dm q j f) k).2))]) G 8 dX2_worstQuake_68 rfl (by decide) rfl ?_
          refine wp_goto G dX2_worstQuake_71 ?_
          refine wp_lv [3, 4, 5, 6, 7, 8, 0] rfl ?_
          exact ih10 (k + 1) ((wsF o (cnd q (-1) b) (fun j => lsQ hn hs kd dm q j f) k).1) ((wsF o (cnd q (-1) b) (fun j => lsQ hn hs kd dm q j f) k).2) (((k : Nat) : Int) + 1) (by omega) (by first | (exfalso; omega) | (rw [wsF_y (by assumption) (by omega)]; done) | (rw [wsF_n (by intro z; first | exact absurd z.1 (by assumption) | (have := z.2; omega))])) (by first | (exfalso; omega) | (rw [wsF_y (by assumption) (by omega)]; done) | (rw [wsF_n (by intro z; first | exact absurd z.1 (by assumption) | (have := z.2; omega))])) (by omega) (by omega)
        · skip
          refine wp_iload G 0 dX2_worstQuake_60 rfl ?_
          refine wp_istore (lv' := [(5, zI (lsQ hn hs kd dm q (o k) f)), (8, zI (lsQ hn hs kd dm q (o k) f)), (7, zI ((o k : Nat) : Int)), (0, zR 48), (1, zR 2), (2, zI b), (3, zI f), (4, zI ((wsF o (cnd q (-1) b) (fun j => lsQ hn hs kd dm q j f) k).1)), (6, zI ((k : Nat) : Int))]) G dX2_worstQuake_62 (by decide) rfl ?_
          refine wp_iload G 2 dX2_worstQuake_64 rfl ?_
          refine wp_istore (lv' := [(4, zI ((o k : Nat) : Int)), (5, zI (lsQ hn hs kd dm q (o k) f)), (8, zI (lsQ hn hs kd dm q (o k) f)), (7, zI ((o k : Nat) : Int)), (0, zR 48), (1, zR 2), (2, zI b), (3, zI f), (6, zI ((k : Nat) : Int))]) G dX2_worstQuake_66 (by decide) rfl ?_
          refine wp_iinc (lv' := [(6, zI (((k : Nat) : Int) + 1)), (4, zI ((o k : Nat) : Int)), (5, zI (lsQ hn hs kd dm q (o k) f)), (8, zI (lsQ hn hs kd dm q (o k) f)), (7, zI ((o k : Nat) : Int)), (0, zR 48), (1, zR 2), (2, zI b), (3, zI f)]) G 8 dX2_worstQuake_68 rfl (by decide) rfl ?_
          refine wp_goto G dX2_worstQuake_71 ?_
          refine wp_lv [5, 6, 7, 8, 1, 2, 0] rfl ?_
          exact ih10 (k + 1) ((o k : Nat) : Int) (lsQ hn hs kd dm q (o k) f) (((k : Nat) : Int) + 1) (by omega) (by first | (exfalso; omega) | (rw [wsF_y (by assumption) (by omega)]; done) | (rw [wsF_n (by intro z; first | exact absurd z.1 (by assumption) | (have := z.2; omega))])) (by first | (exfalso; omega) | (rw [wsF_y (by assumption) (by omega)]; done) | (rw [wsF_n (by intro z; first | exact absurd z.1 (by assumption) | (have := z.2; omega))])) (by omega) (by omega)

set_option maxRecDepth 100000 in
set_option maxHeartbeats 4000000 in
theorem t_X2_howOftenAbove {nx : Nat} {h : Nat → Option PC} {hn : Nat} {hs : Nat → Nat → Int} {kd : Nat → Nat} {dm : Nat → Nat → Int} {ln : Nat} {lw : Nat → Nat → Int} {gn : Nat → Int} {l : Int} {f : Int} (hG : isG h hn hs kd dm ln lw gn) (hH : okH hn hs kd) (hD : okD dm) (hL : okL ln lw) (ri_l : r32 l) (hf : 0 ≤ f ∧ f ≤ 20) : Cx 5 (0, 0) yX2_howOftenAbove cX2_howOftenAbove 5 (some .int) [zR 48, zI l, zI f] nx h (Rt (zI (sumZ (fun k => ifZ (l < lsL hn hs kd dm lw k 0 f) (lw 3 k) 0) ln)) nx []) := by
  refine cx_of pnX2_howOftenAbove (Nat.le_of_ble_eq_true rfl) ?_
  intro K G hr hnm hR
  obtain ⟨h48, h49, h50, h51, h52, h53, h54, h55, h56, h57, h58, h59, h60, h61, h62, h63⟩ := id hG
  have hn12 := hH.1
  have ln12 := hL.1
  show Wp K 5 (Mx K h (Rt (zI (sumZ (fun k => ifZ (l < lsL hn hs kd dm lw k 0 f) (lw 3 k) 0) ln)) nx []) (0, 0)) (0, 0) 0 [(0, zR 48), (1, zI l), (2, zI f)] [] (nx, h, [])
  refine wp_iconst G dX2_howOftenAbove_0 ?_
  refine wp_istore_n (lv' := [(3, zI 0), (0, zR 48), (1, zI l), (2, zI f)]) G dX2_howOftenAbove_1 (by decide) rfl ?_
  refine wp_iconst G dX2_howOftenAbove_2 ?_
  refine wp_istore (lv' := [(4, zI 0), (3, zI 0), (0, zR 48), (1, zI l), (2, zI f)]) G dX2_howOftenAbove_3 (by decide) rfl ?_
  refine wp_lv [2, 3, 4, 1, 0] rfl ?_
  suffices lp5 : ∀ (fu : Nat) (k : Nat) (v3 : Int) (v4 : Int), ln - k < fu → (v3 = sumZ (fun k => ifZ (l < lsL hn hs kd dm lw k 0 f) (lw 3 k) 0) k) → (v4 = ((k : Nat) : Int)) → (k ≤ ln) → Wp K 5 (Mx K h (Rt (zI (sumZ (fun k => ifZ (l < lsL hn hs kd dm lw k 0 f) (lw 3 k) 0) ln)) nx []) (0, 0)) (0, 0) 5 [(0, zR 48), (1, zI l), (2, zI f), (3, zI v3), (4, zI v4)] [] (nx, h, []) from lp5 _ 0 0 0 (Nat.lt_succ_self _) (by rfl) (by omega) (by omega)
  intro fu
  induction fu with
  | zero => intro k v3 v4 hm; exact absurd hm (Nat.not_lt_zero _)
  | succ fu ih5 =>
    intro k v3 v4 hm5 e3 e4 hi0
    subst e3
    subst e4
    have hlb := fun z => lsL_b (s := 0) (f := f) (k := k) hH hD hL z hf
    refine wp_iload G 4 dX2_howOftenAbove_5 rfl ?_
    refine wp_aload_n G 0 dX2_howOftenAbove_7 rfl ?_
    refine wp_get G 7 cOk2 fX2_36 dX2_howOftenAbove_8 h48 rfl ?_
    refine wp_icmp_ge G dX2_howOftenAbove_11 (by omega) (by omega) (fun kq1 => ?_) (fun kq1 => ?_)
    · skip
      refine wp_iload_n G 3 dX2_howOftenAbove_42 rfl ?_
      exact wp_ireturn G hr dX2_howOftenAbove_43 ⟨by rw [show k = ln by omega], rfl, by rfl⟩
    · skip
      refine wp_aload_n G 0 dX2_howOftenAbove_14 rfl ?_
      refine wp_iload G 4 dX2_howOftenAbove_15 rfl ?_
      refine wp_iconst G dX2_howOftenAbove_17 ?_
      refine wp_iload_n G 2 dX2_howOftenAbove_18 rfl ?_
      refine wp_cVE (b := 48) (ci := 2) (as := [zI ((k : Nat) : Int), zI 0, zI f]) (rest := []) (hp2 := (nx, h, [])) G mX2_lossByLaw lX2_98 iX2_lossByLaw eX2_lossByLaw ⟨_, rfl, rfl⟩ dX2_howOftenAbove_19 h48 rfl rfl (Nat.le_of_ble_eq_true rfl) (rmx_ok hR (by decide) (by decide) (by decide) (by decide)) (t_X2_lossByLaw (nx := nx) (k := k) (f := f) (s := 0) hG hH hD hL (by omega) (by omega) hf) rfl ?_
      refine wp_iload_n G 1 dX2_howOftenAbove_22 rfl ?_
      have hlb2 := hlb (by omega)
      refine wp_icmp_le G dX2_howOftenAbove_23 (by omega) (by omega) (fun kq2 => ?_) (fun kq2 => ?_)
      · skip
        refine wp_iinc (lv' := [(4, zI (((k : Nat) : Int) + 1)), (0, zR 48), (1, zI l), (2, zI f), (3, zI (sumZ (fun k => ifZ (l < lsL hn hs kd dm lw k 0 f) (lw 3 k) 0) k))]) G 4 dX2_howOftenAbove_36 rfl (by decide) rfl ?_
        refine wp_goto G dX2_howOftenAbove_39 ?_
        refine wp_lv [1, 2, 3, 4, 0] rfl ?_
        exact ih5 (k + 1) (sumZ (fun k => ifZ (l < lsL hn hs kd dm lw k 0 f) (lw 3 k) 0) k) (((k : Nat) : Int) + 1) (by omega) (by rw [sumZ]; first | (rw [ifZ_y (by omega)]; done) | (rw [ifZ_n (by omega)]; omega)) (by omega) (by omega)
      · skip
        refine wp_iload_n G 3 dX2_howOftenAbove_26 rfl ?_
        refine wp_aload_n G 0 dX2_howOftenAbove_27 rfl ?_
        refine wp_get G 11 cOk2 fX2_48 dX2_howOftenAbove_28 h48 rfl ?_
        refine wp_iload G 4 dX2_howOftenAbove_31 rfl ?_
        refine wp_iald (j := k) G dX2_howOftenAbove_33 h62 rfl (by omega) (by decide) ?_
        have rrq1 := hL.2.2.2.2 k (by omega)
        refine wp_iadd G dX2_howOftenAbove_34 ?_
        refine wp_istore_n (lv' := [(3, zI (sumZ (fun k => ifZ (l < lsL hn hs kd dm lw k 0 f) (lw 3 k) 0) k + ((lw 3) k))), (0, zR 48), (1, zI l), (2, zI f), (4, zI ((k : Nat) : Int))]) G dX2_howOftenAbove_35 (by decide) rfl ?_
        refine wp_iinc (lv' := [(4, zI (((k : Nat) : Int) + 1)), (3, zI (sumZ (fun k => ifZ (l < lsL hn hs kd dm lw k 0 f) (lw 3 k) 0) k + ((lw 3) k))), (0, zR 48), (1, zI l), (2, zI f)]) G 4 dX2_howOftenAbove_36 rfl (by decide) rfl ?_
        refine wp_goto G dX2_howOftenAbove_39 ?_
        refine wp_lv [2, 3, 4, 1, 0] rfl ?_
        exact ih5 (k + 1) (sumZ (fun k => ifZ (l < lsL hn hs kd dm lw k 0 f) (lw 3 k) 0) k + ((lw 3) k)) (((k : Nat) : Int) + 1) (by omega) (by rw [sumZ]; first | (rw [ifZ_y (by omega)]; done) | (rw [ifZ_n (by omega)]; omega)) (by omega) (by omega)

set_option maxRecDepth 100000 in
set_option maxHeartbeats 4000000 in
theorem t_X2_meanLoss {nx : Nat} {h : Nat → Option PC} {hn : Nat} {hs : Nat → Nat → Int} {kd : Nat → Nat} {dm : Nat → Nat → Int} {ln : Nat} {lw : Nat → Nat → Int} {gn : Nat → Int} {s : Nat} {f : Int} (hG : isG h hn hs kd dm ln lw gn) (hH : okH hn hs kd) (hD : okD dm) (hL : okL ln lw) (h4 : s < 4096) (hf : 0 ≤ f ∧ f ≤ 20) : Cx 5 (0, 0) yX2_meanLoss cX2_meanLoss 6 (some .long) [zR 48, zI ((s : Nat) : Int), zI f] nx h (Rt (zJ (meanF hn ln hs kd dm lw s f ln)) nx []) := by
  refine cx_of pnX2_meanLoss (Nat.le_of_ble_eq_true rfl) ?_
  intro K G hr hnm hR
  obtain ⟨h48, h49, h50, h51, h52, h53, h54, h55, h56, h57, h58, h59, h60, h61, h62, h63⟩ := id hG
  have hn12 := hH.1
  have ln12 := hL.1
  show Wp K 6 (Mx K h (Rt (zJ (meanF hn ln hs kd dm lw s f ln)) nx []) (0, 0)) (0, 0) 0 [(0, zR 48), (1, zI ((s : Nat) : Int)), (2, zI f)] [] (nx, h, [])
  refine wp_lconst (z := 0) G dX2_meanLoss_0 (by decide) ?_
  refine wp_lstore_n (lv' := [(3, zJ 0), (0, zR 48), (1, zI ((s : Nat) : Int)), (2, zI f)]) G dX2_meanLoss_1 (by decide) rfl ?_
  refine wp_iconst G dX2_meanLoss_2 ?_
  refine wp_istore (lv' := [(5, zI 0), (3, zJ 0), (0, zR 48), (1, zI ((s : Nat) : Int)), (2, zI f)]) G dX2_meanLoss_3 (by decide) rfl ?_
  refine wp_lv [2, 3, 4, 1, 0] rfl ?_
  suffices lp5 : ∀ (fu : Nat) (k : Nat) (v3 : Int) (v5 : Int), ln - k < fu → (v3 = meanF hn ln hs kd dm lw s f k) → (v5 = ((k : Nat) : Int)) → (k ≤ ln) → Wp K 6 (Mx K h (Rt (zJ (meanF hn ln hs kd dm lw s f ln)) nx []) (0, 0)) (0, 0) 5 [(0, zR 48), (1, zI ((s : Nat) : Int)), (2, zI f), (3, zJ v3), (5, zI v5)] [] (nx, h, []) from lp5 _ 0 0 0 (Nat.lt_succ_self _) (by rfl) (by omega) (by omega)
  intro fu
  induction fu with
  | zero => intro k v3 v5 hm; exact absurd hm (Nat.not_lt_zero _)
  | succ fu ih5 =>
    intro k v3 v5 hm5 e3 e5 hi0
    subst e3
    subst e5
    have hlb := fun z => lsL_b (s := s) (f := f) (k := k) hH hD hL z hf
    refine wp_iload G 4 dX2_meanLoss_5 rfl ?_
    refine wp_aload_n G 0 dX2_meanLoss_7 rfl ?_
    refine wp_get G 7 cOk2 fX2_36 dX2_meanLoss_8 h48 rfl ?_
    refine wp_icmp_ge G dX2_meanLoss_11 (by omega) (by omega) (fun kq1 => ?_) (fun kq1 => ?_)
    · skip
      refine wp_lload_n G 3 dX2_meanLoss_41 rfl ?_
      exact wp_lreturn G hr dX2_meanLoss_42 ⟨by rw [show k = ln by omega], rfl, by rfl⟩
    · skip
      refine wp_lload_n G 3 dX2_meanLoss_14 rfl ?_
      refine wp_aload_n G 0 dX2_meanLoss_15 rfl ?_
      refine wp_get G 11 cOk2 fX2_48 dX2_meanLoss_16 h48 rfl ?_
      refine wp_iload G 4 dX2_meanLoss_19 rfl ?_
      refine wp_iald (j := k) G dX2_meanLoss_21 h62 rfl (by omega) (by decide) ?_
      have rrq1 := hL.2.2.2.2 k (by omega)
      refine wp_i2l G (by omega) dX2_meanLoss_22 ?_
      refine wp_aload_n G 0 dX2_meanLoss_23 rfl ?_
      refine wp_iload G 4 dX2_meanLoss_24 rfl ?_
      refine wp_iload_n G 1 dX2_meanLoss_26 rfl ?_
      refine wp_iload_n G 2 dX2_meanLoss_27 rfl ?_
      refine wp_cVE (b := 48) (ci := 2) (as := [zI ((k : Nat) : Int), zI ((s : Nat) : Int), zI f]) (rest := [zJ ((lw 3) k), zJ (meanF hn ln hs kd dm lw s f k)]) (hp2 := (nx, h, [])) G mX2_lossByLaw lX2_98 iX2_lossByLaw eX2_lossByLaw ⟨_, rfl, rfl⟩ dX2_meanLoss_28 h48 rfl rfl (Nat.le_of_ble_eq_true rfl) (rmx_ok hR (by decide) (by decide) (by decide) (by decide)) (t_X2_lossByLaw (nx := nx) (k := k) (s := s) (f := f) hG hH hD hL (by omega) h4 hf) rfl ?_
      have hlb2 := hlb (by omega)
      refine wp_i2l G (by omega) dX2_meanLoss_31 ?_
      refine wp_lmul G dX2_meanLoss_32 ?_
      refine wp_ladd G dX2_meanLoss_33 ?_
      refine wp_lstore_n (lv' := [(3, zJ (meanF hn ln hs kd dm lw s f k + (((lw 3) k) * lsL hn hs kd dm lw k s f))), (0, zR 48), (1, zI ((s : Nat) : Int)), (2, zI f), (5, zI ((k : Nat) : Int))]) G dX2_meanLoss_34 (by decide) rfl ?_
      refine wp_iinc (lv' := [(5, zI (((k : Nat) : Int) + 1)), (3, zJ (meanF hn ln hs kd dm lw s f k + (((lw 3) k) * lsL hn hs kd dm lw k s f))), (0, zR 48), (1, zI ((s : Nat) : Int)), (2, zI f)]) G 4 dX2_meanLoss_35 rfl (by decide) rfl ?_
      refine wp_goto G dX2_meanLoss_38 ?_
      refine wp_lv [2, 3, 4, 1, 0] rfl ?_
      exact ih5 (k + 1) (meanF hn ln hs kd dm lw s f k + (((lw 3) k) * lsL hn hs kd dm lw k s f)) (((k : Nat) : Int) + 1) (by omega) (by rfl) (by omega) (by omega)

set_option maxRecDepth 100000 in
set_option maxHeartbeats 4000000 in
theorem t_X2_gainOf {nx : Nat} {h : Nat → Option PC} {hn : Nat} {hs : Nat → Nat → Int} {kd : Nat → Nat} {dm : Nat → Nat → Int} {ln : Nat} {lw : Nat → Nat → Int} {gn : Nat → Int} {u : Nat} {f : Int} (hG : isG h hn hs kd dm ln lw gn) (hH : okH hn hs kd) (hD : okD dm) (hL : okL ln lw) (hu : u < hn) (hf : 0 ≤ f ∧ f ≤ 20) : Cx 3 (0, 0) yX2_gainOf cX2_gainOf 8 (some .long) [zR 48, zI ((u : Nat) : Int), zI f] nx h (Rt (zJ (gainF hs kd dm lw u f ln)) nx []) := by
  refine cx_of pnX2_gainOf (Nat.le_of_ble_eq_true rfl) ?_
  intro K G hr hnm hR
  obtain ⟨h48, h49, h50, h51, h52, h53, h54, h55, h56, h57, h58, h59, h60, h61, h62, h63⟩ := id hG
  have hn12 := hH.1
  have ln12 := hL.1
  show Wp K 8 (Mx K h (Rt (zJ (gainF hs kd dm lw u f ln)) nx []) (0, 0)) (0, 0) 0 [(0, zR 48), (1, zI ((u : Nat) : Int)), (2, zI f)] [] (nx, h, [])
  refine wp_lconst (z := 0) G dX2_gainOf_0 (by decide) ?_
  refine wp_lstore_n (lv' := [(3, zJ 0), (0, zR 48), (1, zI ((u : Nat) : Int)), (2, zI f)]) G dX2_gainOf_1 (by decide) rfl ?_
  refine wp_iconst G dX2_gainOf_2 ?_
  refine wp_istore (lv' := [(5, zI 0), (3, zJ 0), (0, zR 48), (1, zI ((u : Nat) : Int)), (2, zI f)]) G dX2_gainOf_3 (by decide) rfl ?_
  refine wp_lv [2, 3, 4, 1, 0] rfl ?_
  suffices lp5 : ∀ (fu : Nat) (k : Nat) (v3 : Int) (v5 : Int), ln - k < fu → (v3 = gainF hs kd dm lw u f k) → (v5 = ((k : Nat) : Int)) → (k ≤ ln) → Wp K 8 (Mx K h (Rt (zJ (gainF hs kd dm lw u f ln)) nx []) (0, 0)) (0, 0) 5 [(0, zR 48), (1, zI ((u : Nat) : Int)), (2, zI f), (3, zJ v3), (5, zI v5)] [] (nx, h, []) from lp5 _ 0 0 0 (Nat.lt_succ_self _) (by rfl) (by omega) (by omega)
  intro fu
  induction fu with
  | zero => intro k v3 v5 hm; exact absurd hm (Nat.not_lt_zero _)
  | succ fu ih5 =>
    intro k v3 v5 hm5 e3 e5 hi0
    subst e3
    subst e5
    refine wp_iload G 4 dX2_gainOf_5 rfl ?_
    refine wp_aload_n G 0 dX2_gainOf_7 rfl ?_
    refine wp_get G 7 cOk2 fX2_36 dX2_gainOf_8 h48 rfl ?_
    refine wp_icmp_ge G dX2_gainOf_11 (by omega) (by omega) (fun kq1 => ?_) (fun kq1 => ?_)
    · skip
      refine wp_lload_n G 3 dX2_gainOf_103 rfl ?_
      exact wp_lreturn G hr dX2_gainOf_104 ⟨by rw [show k = ln by omega], rfl, by rfl⟩
    · skip
      have hku := hH.2.2.2.2.2 u hu
      have hxk := hL.2.1 k (by omega)
      have hyk := hL.2.2.1 k (by omega)
      have hgk := hL.2.2.2.1 k (by omega)
      have hl1 := lsH_b (k := kd u) hH hD hu (by omega) hxk hyk hgk hf
      have hl2 := lsH_b (k := 3) hH hD hu (by omega) hxk hyk hgk hf
      refine wp_aload_n G 0 dX2_gainOf_14 rfl ?_
      refine wp_iload_n G 1 dX2_gainOf_15 rfl ?_
      refine wp_aload_n G 0 dX2_gainOf_16 rfl ?_
      refine wp_get G 3 cOk2 fX2_22 dX2_gainOf_17 h48 rfl ?_
      refine wp_iload_n G 1 dX2_gainOf_20 rfl ?_
      refine wp_iald (j := u) G dX2_gainOf_21 h51 rfl (by omega) (by decide) ?_
      have rrq1 := hH.2.2.2.2.2 u (by omega)
      refine wp_aload_n G 0 dX2_gainOf_22 rfl ?_
      refine wp_get G 8 cOk2 fX2_39 dX2_gainOf_23 h48 rfl ?_
      refine wp_iload G 4 dX2_gainOf_26 rfl ?_
      refine wp_iald (j := k) G dX2_gainOf_28 h59 rfl (by omega) (by decide) ?_
      have rrq2 := hL.2.1 k (by omega)
      refine wp_aload_n G 0 dX2_gainOf_29 rfl ?_
      refine wp_get G 9 cOk2 fX2_42 dX2_gainOf_30 h48 rfl ?_
      refine wp_iload G 4 dX2_gainOf_33 rfl ?_
      refine wp_iald (j := k) G dX2_gainOf_35 h60 rfl (by omega) (by decide) ?_
      have rrq3 := hL.2.2.1 k (by omega)
      refine wp_aload_n G 0 dX2_gainOf_36 rfl ?_
      refine wp_get G 10 cOk2 fX2_45 dX2_gainOf_37 h48 rfl ?_
      refine wp_iload G 4 dX2_gainOf_40 rfl ?_
      refine wp_iald (j := k) G dX2_gainOf_42 h61 rfl (by omega) (by decide) ?_
      have rrq4 := hL.2.2.2.1 k (by omega)
      refine wp_iload_n G 2 dX2_gainOf_43 rfl ?_
      refine wp_cVE (b := 48) (ci := 2) (as := [zI ((u : Nat) : Int), zI ((kd u : Nat) : Int), zI ((lw 0) k), zI ((lw 1) k), zI ((lw 2) k), zI f]) (rest := []) (hp2 := (nx, h, [])) G mX2_lossOfHouse lX2_65 iX2_lossOfHouse eX2_lossOfHouse ⟨_, rfl, rfl⟩ dX2_gainOf_44 h48 rfl rfl (Nat.le_of_ble_eq_true rfl) (rmx_ok hR (by decide) (by decide) (by decide) (by decide)) (t_X2_lossOfHouse (nx := nx) (u := u) (k := (kd u)) (x := ((lw 0) k)) (y := ((lw 1) k)) (g := ((lw 2) k)) (f := f) hG hH hD hL hu (by omega) hxk hyk hgk hf) rfl ?_
      refine wp_istore (lv' := [(6, zI (lsH hs dm u (kd u) ((lw 0) k) ((lw 1) k) ((lw 2) k) f)), (0, zR 48), (1, zI ((u : Nat) : Int)), (2, zI f), (3, zJ (gainF hs kd dm lw u f k)), (5, zI ((k : Nat) : Int))]) G dX2_gainOf_47 (by decide) rfl ?_
      refine wp_aload_n G 1 dX2_gainOf_49 rfl ?_
      refine wp_iload_n G 2 dX2_gainOf_50 rfl ?_
      refine wp_iconst G dX2_gainOf_51 ?_
      refine wp_aload_n G 1 dX2_gainOf_52 rfl ?_
      refine wp_get G 8 cOk2 fX2_39 dX2_gainOf_53 h48 rfl ?_
      refine wp_iload G 5 dX2_gainOf_56 rfl ?_
      refine wp_iald (j := k) G dX2_gainOf_58 h59 rfl (by omega) (by decide) ?_
      have rrq5 := hL.2.1 k (by omega)
      refine wp_aload_n G 1 dX2_gainOf_59 rfl ?_
      refine wp_get G 9 cOk2 fX2_42 dX2_gainOf_60 h48 rfl ?_
      refine wp_iload G 5 dX2_gainOf_63 rfl ?_
      refine wp_iald (j := k) G dX2_gainOf_65 h60 rfl (by omega) (by decide) ?_
      have rrq6 := hL.2.2.1 k (by omega)
      refine wp_aload_n G 1 dX2_gainOf_66 rfl ?_
      refine wp_get G 10 cOk2 fX2_45 dX2_gainOf_67 h48 rfl ?_
      refine wp_iload G 5 dX2_gainOf_70 rfl ?_
      refine wp_iald (j := k) G dX2_gainOf_72 h61 rfl (by omega) (by decide) ?_
      have rrq7 := hL.2.2.2.1 k (by omega)
      refine wp_iload_n G 3 dX2_gainOf_73 rfl ?_
      refine wp_cVE (b := 48) (ci := 2) (as := [zI ((u : Nat) : Int), zI 3, zI ((lw 0) k), zI ((lw 1) k), zI ((lw 2) k), zI f]) (rest := []) (hp2 := (nx, h, [])) G mX2_lossOfHouse lX2_65 iX2_lossOfHouse eX2_lossOfHouse ⟨_, rfl, rfl⟩ dX2_gainOf_74 h48 rfl rfl (Nat.le_of_ble_eq_true rfl) (rmx_ok hR (by decide) (by decide) (by decide) (by decide)) (t_X2_lossOfHouse (nx := nx) (u := u) (x := ((lw 0) k)) (y := ((lw 1) k)) (g := ((lw 2) k)) (f := f) (k := 3) hG hH hD hL hu (by omega) hxk hyk hgk hf) rfl ?_
      refine wp_istore (lv' := [(7, zI (lsH hs dm u 3 ((lw 0) k) ((lw 1) k) ((lw 2) k) f)), (6, zI (lsH hs dm u (kd u) ((lw 0) k) ((lw 1) k) ((lw 2) k) f)), (0, zR 48), (1, zI ((u : Nat) : Int)), (2, zI f), (3, zJ (gainF hs kd dm lw u f k)), (5, zI ((k : Nat) : Int))]) G dX2_gainOf_77 (by decide) rfl ?_
      refine wp_lload_n G 5 dX2_gainOf_79 rfl ?_
      refine wp_aload_n G 2 dX2_gainOf_80 rfl ?_
      refine wp_get G 11 cOk2 fX2_48 dX2_gainOf_81 h48 rfl ?_
      refine wp_iload G 6 dX2_gainOf_84 rfl ?_
      refine wp_iald (j := k) G dX2_gainOf_86 h62 rfl (by omega) (by decide) ?_
      have rrq8 := hL.2.2.2.2 k (by omega)
      refine wp_i2l G (by omega) dX2_gainOf_87 ?_
      refine wp_iload G 1 dX2_gainOf_88 rfl ?_
      refine wp_iload G 0 dX2_gainOf_90 rfl ?_
      refine wp_isub G dX2_gainOf_92 ?_
      refine wp_i2l G (by omega) dX2_gainOf_93 ?_
      refine wp_lmul G dX2_gainOf_94 ?_
      refine wp_ladd G dX2_gainOf_95 ?_
      refine wp_lstore_n (lv' := [(3, zJ (gainF hs kd dm lw u f k + (((lw 3) k) * (lsH hs dm u (kd u) ((lw 0) k) ((lw 1) k) ((lw 2) k) f - lsH hs dm u 3 ((lw 0) k) ((lw 1) k) ((lw 2) k) f)))), (7, zI (lsH hs dm u 3 ((lw 0) k) ((lw 1) k) ((lw 2) k) f)), (6, zI (lsH hs dm u (kd u) ((lw 0) k) ((lw 1) k) ((lw 2) k) f)), (0, zR 48), (1, zI ((u : Nat) : Int)), (2, zI f), (5, zI ((k : Nat) : Int))]) G dX2_gainOf_96 (by decide) rfl ?_
      refine wp_iinc (lv' := [(5, zI (((k : Nat) : Int) + 1)), (3, zJ (gainF hs kd dm lw u f k + (((lw 3) k) * (lsH hs dm u (kd u) ((lw 0) k) ((lw 1) k) ((lw 2) k) f - lsH hs dm u 3 ((lw 0) k) ((lw 1) k) ((lw 2) k) f)))), (7, zI (lsH hs dm u 3 ((lw 0) k) ((lw 1) k) ((lw 2) k) f)), (6, zI (lsH hs dm u (kd u) ((lw 0) k) ((lw 1) k) ((lw 2) k) f)), (0, zR 48), (1, zI ((u : Nat) : Int)), (2, zI f)]) G 6 dX2_gainOf_97 rfl (by decide) rfl ?_
      refine wp_goto G dX2_gainOf_100 ?_
      refine wp_lv [4, 5, 6, 1, 0] rfl ?_
      exact ih5 (k + 1) (gainF hs kd dm lw u f k + (((lw 3) k) * (lsH hs dm u (kd u) ((lw 0) k) ((lw 1) k) ((lw 2) k) f - lsH hs dm u 3 ((lw 0) k) ((lw 1) k) ((lw 2) k) f))) (((k : Nat) : Int) + 1) (by omega) (by rfl) (by omega) (by omega)

set_option maxRecDepth 100000 in
set_option maxHeartbeats 4000000 in
theorem t_X2_offer {nx : Nat} {h : Nat → Option PC} {hn : Nat} {ln : Nat} {gn : Nat → Int} {p : Nat} {g : Int} {pu : Nat} (h48 : h 48 = some (oO 2 [zI ((hn : Nat) : Int), zR 49, zR 50, zR 51, zR 52, zR 53, zR 54, zI ((ln : Nat) : Int), zR 59, zR 60, zR 61, zR 62, zR 63])) (h63 : h 63 = some (oL 2 501 gn)) (hp1 : p ≤ 100) (hpu : pu ≤ 500) (hgr : ∀ m, m ≤ pu → 0 ≤ gn m ∧ gn m ≤ 100000000000000000) (hg : -100000000000000000 ≤ g ∧ g ≤ 100000000000000000) : Cx 1 (0, 0) yX2_offer cX2_offer 6 none [zR 48, zI ((p : Nat) : Int), zJ g, zI ((pu : Nat) : Int)] nx h (Rn nx [(63, oL 2 501 (ofF gn p g p pu))]) := by
  refine cx_of pnX2_offer (Nat.le_of_ble_eq_true rfl) ?_
  intro K G hr hnm hR
  show Wp K 6 (Mx K h (Rn nx [(63, oL 2 501 (ofF gn p g p pu))]) (0, 0)) (0, 0) 0 [(0, zR 48), (1, zI ((p : Nat) : Int)), (2, zJ g), (4, zI ((pu : Nat) : Int))] [] (nx, h, [])
  refine wp_iload G 3 dX2_offer_0 rfl ?_
  refine wp_istore (lv' := [(5, zI ((pu : Nat) : Int)), (0, zR 48), (1, zI ((p : Nat) : Int)), (2, zJ g), (4, zI ((pu : Nat) : Int))]) G dX2_offer_2 (by decide) rfl ?_
  refine wp_own (r := 63) (hp2 := (nx, h, [(63, oL 2 501 gn)])) h63 rfl ?_
  refine wp_lv [1, 2, 3, 4, 0] rfl ?_
  suffices lp4 : ∀ (fu : Nat) (k : Nat) (v5 : Int) (A63 : Nat → Int), k < fu → (v5 = (((k : Nat) : Int) - 1)) → (A63 = ofF gn p g k pu) → (k ≤ pu + 1) → (p ≤ k ∨ pu < p ∧ k = pu + 1) → Wp K 6 (Mx K h (Rn nx [(63, oL 2 501 (ofF gn p g p pu))]) (0, 0)) (0, 0) 4 [(0, zR 48), (1, zI ((p : Nat) : Int)), (2, zJ g), (4, zI ((pu : Nat) : Int)), (5, zI v5)] [] (nx, h, [(63, oL 2 501 A63)]) from lp4 _ (pu + 1) ((pu : Nat) : Int) gn (Nat.lt_succ_self _) (by omega) (by exact ofF_0 gn p g pu) (by omega) (by omega)
  intro fu
  induction fu with
  | zero => intro k v5 A63 hm; exact absurd hm (Nat.not_lt_zero _)
  | succ fu ih4 =>
    intro k v5 A63 hm4 e5 eA63 hi0 hpk
    subst e5
    subst eA63
    refine wp_iload G 4 dX2_offer_4 rfl ?_
    refine wp_iload_n G 1 dX2_offer_6 rfl ?_
    refine wp_icmp_lt G dX2_offer_7 (by omega) (by omega) (fun kq1 => ?_) (fun kq1 => ?_)
    · skip
      exact wp_vreturn G hr dX2_offer_44 ⟨rfl, rfl, by rw [ofF_fin gn g (by omega)]⟩
    · skip
      refine wp_aload_n G 0 dX2_offer_10 rfl ?_
      refine wp_get G 12 cOk2 fX2_51 dX2_offer_11 h48 rfl ?_
      refine wp_iload G 4 dX2_offer_14 rfl ?_
      refine wp_aload_n G 0 dX2_offer_16 rfl ?_
      refine wp_get G 12 cOk2 fX2_51 dX2_offer_17 h48 rfl ?_
      refine wp_iload G 4 dX2_offer_20 rfl ?_
      refine wp_lald (j := k - 1) G dX2_offer_22 rfl (by omega) (by omega) (by decide) ?_
      refine wp_aload_n G 0 dX2_offer_23 rfl ?_
      refine wp_get G 12 cOk2 fX2_51 dX2_offer_24 h48 rfl ?_
      refine wp_iload G 4 dX2_offer_27 rfl ?_
      refine wp_iload_n G 1 dX2_offer_29 rfl ?_
      refine wp_isub G dX2_offer_30 ?_
      refine wp_lald (j := k - 1 - p) G dX2_offer_31 rfl (by omega) (by omega) (by decide) ?_
      refine wp_lload_n G 2 dX2_offer_32 rfl ?_
      refine wp_ladd G dX2_offer_33 ?_
      have ho1 : ofF gn p g k pu (k - 1) = gn (k - 1) := by unfold ofF; rw [if_neg (by omega)]
      have ho2 : ofF gn p g k pu (k - 1 - p) = gn (k - 1 - p) := by unfold ofF; rw [if_neg (by omega)]
      have hr1 := hgr (k - 1) (by omega)
      have hr2 := hgr (k - 1 - p) (by omega)
      refine wp_lmax G (by omega) (by omega) lX2_118 sJ9_max_f86c9 mJ9_max_f86c9.1 mJ9_max_f86c9.2.1 dX2_offer_34 (Nat.le_of_ble_eq_true rfl) (rmx_ok (maxL := 2) hR (by decide) (by decide) (by decide) (by decide)) ?_
      refine wp_lastE (j := k - 1) (hp2 := (nx, h, [(63, oL 2 501 (fup (ofF gn p g k pu) (k - 1) (max ((ofF gn p g k pu) (k - 1)) (((ofF gn p g k pu) (k - 1 - p)) + g))))])) G dX2_offer_37 rfl (by omega) (by omega) (by decide) rfl ?_
      refine wp_iinc (lv' := [(5, zI ((((k : Nat) : Int) - 1) + (-1))), (0, zR 48), (1, zI ((p : Nat) : Int)), (2, zJ g), (4, zI ((pu : Nat) : Int))]) G 4 dX2_offer_38 rfl (by decide) rfl ?_
      refine wp_goto G dX2_offer_41 ?_
      refine wp_lv [1, 2, 3, 4, 0] rfl ?_
      exact ih4 (k - 1) ((((k : Nat) : Int) - 1) + (-1)) (fup (ofF gn p g k pu) (k - 1) (max ((ofF gn p g k pu) (k - 1)) (((ofF gn p g k pu) (k - 1 - p)) + g))) (by omega) (by omega) (by exact ofF_s gn p g (by omega) (by omega)) (by omega) (by omega)

set_option maxRecDepth 100000 in
set_option maxHeartbeats 4000000 in
theorem t_J9_floorMod_f86c9 {nx : Nat} {h : Nat → Option PC} {a : Int} (ra : r64 a) : Cx 0 (0, 0) yJ9_floorMod_f86c9 cJ9_floorMod_f86c9 6 (some .long) [zJ a, zJ 4096] nx h (Rt (zJ (a % 4096)) nx []) := by
  refine cx_ofF (by decide +kernel) (Nat.le_of_ble_eq_true rfl) ?_
  intro K G hr hnm hR
  show Wp K 6 (Mx K h (Rt (zJ (a % 4096)) nx []) (0, 0)) (0, 0) 0 [(0, zJ a), (2, zJ 4096)] [] (nx, h, [])
  refine wp_lload_n G 0 dJ9_floorMod_f86c9_0 rfl ?_
  refine wp_lload_n G 1 dJ9_floorMod_f86c9_1 rfl ?_
  refine wp_lrem G (by omega) (by omega) (by omega) dJ9_floorMod_f86c9_2 ?_
  refine wp_lstore (lv' := [(4, zJ (Int.tmod a 4096)), (0, zJ a), (2, zJ 4096)]) G dJ9_floorMod_f86c9_3 (by decide) rfl ?_
  refine wp_lload_n G 1 dJ9_floorMod_f86c9_5 rfl ?_
  refine wp_lload_n G 2 dJ9_floorMod_f86c9_6 rfl ?_
  refine wp_lxor G dJ9_floorMod_f86c9_7 ?_
  refine wp_lconst (z := 0) G dJ9_floorMod_f86c9_8 (by decide) ?_
  have hxs := xZ_s (a := a) (b := 4096) ra (by omega) (by omega)
  have hxr := xZ_r a 4096
  refine wp_lcmp G (by omega) (by omega) dJ9_floorMod_f86c9_9 ?_
  refine wp_if_ge G dJ9_floorMod_f86c9_10 (cmpZ_r _ _) (fun kq1 => ?_) (fun kq1 => ?_)
  · have kq1 : 0 ≤ (xZ a 4096) := Int.not_lt.mp (fun z => absurd (cmpZ_lt.mpr z) (Int.not_lt.mpr kq1))
    refine wp_lload G 0 dJ9_floorMod_f86c9_25 rfl ?_
    exact wp_lreturn G hr dJ9_floorMod_f86c9_27 ⟨by first | exact fm_1 (by omega) | exact fm_2 (by omega) (by omega) | exact fm_3 (by omega) (by omega), rfl, by rfl⟩
  · have kq1 : (xZ a 4096) < 0 := cmpZ_lt.mp kq1
    have htb := tmod_bounds (a := a) (M := 4096) (by omega)
    refine wp_lload G 0 dJ9_floorMod_f86c9_13 rfl ?_
    refine wp_lconst (z := 0) G dJ9_floorMod_f86c9_15 (by decide) ?_
    refine wp_lcmp G (by omega) (by omega) dJ9_floorMod_f86c9_16 ?_
    refine wp_if_eq G dJ9_floorMod_f86c9_17 (cmpZ_r _ _) (fun kq2 => ?_) (fun kq2 => ?_)
    · have kq2 : (Int.tmod a 4096) = 0 := cmpZ_eq.mp kq2
      refine wp_lload G 0 dJ9_floorMod_f86c9_25 rfl ?_
      exact wp_lreturn G hr dJ9_floorMod_f86c9_27 ⟨by first | exact fm_1 (by omega) | exact fm_2 (by omega) (by omega) | exact fm_3 (by omega) (by omega), rfl, by rfl⟩
    · have kq2 : (Int.tmod a 4096) ≠ 0 := fun z => kq2 (cmpZ_eq.mpr z)
      refine wp_lload G 0 dJ9_floorMod_f86c9_20 rfl ?_
      refine wp_lload_n G 2 dJ9_floorMod_f86c9_22 rfl ?_
      refine wp_ladd G dJ9_floorMod_f86c9_23 ?_
      exact wp_lreturn G hr dJ9_floorMod_f86c9_24 ⟨by first | exact fm_1 (by omega) | exact fm_2 (by omega) (by omega) | exact fm_3 (by omega) (by omega), rfl, by rfl⟩

set_option maxRecDepth 100000 in
set_option maxHeartbeats 4000000 in
theorem t_X2_bestHouses {nx : Nat} {h : Nat → Option PC} {hn : Nat} {hs : Nat → Nat → Int} {kd : Nat → Nat} {dm : Nat → Nat → Int} {ln : Nat} {lw : Nat → Nat → Int} {gn : Nat → Int} {pu : Nat} {f : Int} (hG : isG h hn hs kd dm ln lw gn) (hH : okH hn hs kd) (hD : okD dm) (hL : okL ln lw) (hpu : pu ≤ 500) (hf : 0 ≤ f ∧ f ≤ 20) : Cx 4 (0, 0) yX2_bestHouses cX2_bestHouses 8 (some .int) [zR 48, zI ((pu : Nat) : Int), zI f] nx h (Rt (zI ((-(knF hs kd dm lw ln f pu gn hn pu)) % 4096)) nx [(63, oL 2 501 (knF hs kd dm lw ln f pu gn hn))]) := by
  refine cx_of pnX2_bestHouses (Nat.le_of_ble_eq_true rfl) ?_
  intro K G hr hnm hR
  obtain ⟨h48, h49, h50, h51, h52, h53, h54, h55, h56, h57, h58, h59, h60, h61, h62, h63⟩ := id hG
  have hn12 := hH.1
  have ln12 := hL.1
  show Wp K 8 (Mx K h (Rt (zI ((-(knF hs kd dm lw ln f pu gn hn pu)) % 4096)) nx [(63, oL 2 501 (knF hs kd dm lw ln f pu gn hn))]) (0, 0)) (0, 0) 0 [(0, zR 48), (1, zI ((pu : Nat) : Int)), (2, zI f)] [] (nx, h, [])
  refine wp_iconst G dX2_bestHouses_0 ?_
  refine wp_istore_n (lv' := [(3, zI 0), (0, zR 48), (1, zI ((pu : Nat) : Int)), (2, zI f)]) G dX2_bestHouses_1 (by decide) rfl ?_
  refine wp_own (r := 63) (hp2 := (nx, h, [(63, oL 2 501 gn)])) h63 rfl ?_
  refine wp_lv [1, 2, 3, 0] rfl ?_
  suffices lp2 : ∀ (fu : Nat) (k : Nat) (v3 : Int) (A63 : Nat → Int), pu + 1 - k < fu → (v3 = ((k : Nat) : Int)) → (A63 = fun m => if m < k then 0 else gn m) → (k ≤ pu + 1) → Wp K 8 (Mx K h (Rt (zI ((-(knF hs kd dm lw ln f pu gn hn pu)) % 4096)) nx [(63, oL 2 501 (knF hs kd dm lw ln f pu gn hn))]) (0, 0)) (0, 0) 2 [(0, zR 48), (1, zI ((pu : Nat) : Int)), (2, zI f), (3, zI v3)] [] (nx, h, [(63, oL 2 501 A63)]) from lp2 _ 0 0 gn (Nat.lt_succ_self _) (by omega) (by exact z47_0 gn) (by omega)
  intro fu
  induction fu with
  | zero => intro k v3 A63 hm; exact absurd hm (Nat.not_lt_zero _)
  | succ fu ih2 =>
    intro k v3 A63 hm2 e3 eA63 hi0
    subst e3
    subst eA63
    refine wp_iload_n G 3 dX2_bestHouses_2 rfl ?_
    refine wp_iload_n G 1 dX2_bestHouses_3 rfl ?_
    refine wp_icmp_gt G dX2_bestHouses_4 (by omega) (by omega) (fun kq1 => ?_) (fun kq1 => ?_)
    · skip
      refine wp_iconst G dX2_bestHouses_20 ?_
      refine wp_istore_n (lv' := [(3, zI 0), (0, zR 48), (1, zI ((pu : Nat) : Int)), (2, zI f)]) G dX2_bestHouses_21 (by decide) rfl ?_
      refine wp_lv [1, 2, 3, 0] rfl ?_
      suffices lp22 : ∀ (fu : Nat) (u : Nat) (v3 : Int) (A63 : Nat → Int), hn - u < fu → (v3 = ((u : Nat) : Int)) → (A63 = knF hs kd dm lw ln f pu gn u) → (u ≤ hn) → Wp K 8 (Mx K h (Rt (zI ((-(knF hs kd dm lw ln f pu gn hn pu)) % 4096)) nx [(63, oL 2 501 (knF hs kd dm lw ln f pu gn hn))]) (0, 0)) (0, 0) 22 [(0, zR 48), (1, zI ((pu : Nat) : Int)), (2, zI f), (3, zI v3)] [] (nx, h, [(63, oL 2 501 A63)]) from lp22 _ 0 0 (fun m => if m < k then 0 else gn m) (Nat.lt_succ_self _) (by omega) (by rw [show k = pu + 1 by omega]; rfl) (by omega)
      intro fu
      induction fu with
      | zero => intro u v3 A63 hm; exact absurd hm (Nat.not_lt_zero _)
      | succ fu ih22 =>
        intro u v3 A63 hm22 e3 eA63 hi0
        subst e3
        subst eA63
        have hknb := knF_b (gn := gn) (pu := pu) hH hD hL hf u (by omega)
        refine wp_iload_n G 3 dX2_bestHouses_22 rfl ?_
        refine wp_aload_n G 0 dX2_bestHouses_23 rfl ?_
        refine wp_get G 0 cOk2 fX2_9 dX2_bestHouses_24 h48 rfl ?_
        refine wp_icmp_ge G dX2_bestHouses_27 (by omega) (by omega) (fun kq2 => ?_) (fun kq2 => ?_)
        · skip
          refine wp_aload_n G 0 dX2_bestHouses_88 rfl ?_
          refine wp_get G 12 cOk2 fX2_51 dX2_bestHouses_89 h48 rfl ?_
          refine wp_iload_n G 1 dX2_bestHouses_92 rfl ?_
          have hkp := hknb pu (Nat.le_refl _)
          refine wp_lald (j := pu) G dX2_bestHouses_93 rfl rfl (by omega) (by decide) ?_
          refine wp_lneg G dX2_bestHouses_94 ?_
          refine wp_ldc2 (z := 4096) G kX2_102 dX2_bestHouses_95 ?_
          refine wp_cSE (as := [zJ (-((knF hs kd dm lw ln f pu gn u) pu)), zJ 4096]) (rest := []) (hp2 := (nx, h, [(63, oL 2 501 (knF hs kd dm lw ln f pu gn u))])) G mJ9_floorMod_f86c9 lX2_114 sJ9_floorMod_f86c9 dX2_bestHouses_98 rfl rfl (Nat.le_of_ble_eq_true rfl) (rmx_ok hR (by decide) (by decide) (by decide) (by decide)) (t_J9_floorMod_f86c9 (nx := nx) (a := (-((knF hs kd dm lw ln f pu gn u) pu))) (by omega)) rfl ?_
          refine wp_l2i G dX2_bestHouses_101 ?_
          exact wp_ireturn G hr dX2_bestHouses_102 ⟨by rw [show u = hn by omega], rfl, by rw [show u = hn by omega]⟩
        · skip
          refine wp_aload_n G 0 dX2_bestHouses_30 rfl ?_
          refine wp_get G 5 cOk2 fX2_28 dX2_bestHouses_31 h48 rfl ?_
          refine wp_iload_n G 3 dX2_bestHouses_34 rfl ?_
          refine wp_iald (j := u) G dX2_bestHouses_35 h53 rfl (by omega) (by decide) ?_
          have rrq1 := hH.2.2.2.2.1 u (by omega)
          refine wp_i2l G (by omega) dX2_bestHouses_36 ?_
          refine wp_ldc2 (z := 4096) G kX2_102 dX2_bestHouses_37 ?_
          refine wp_lmul G dX2_bestHouses_40 ?_
          refine wp_lconst (z := 1) G dX2_bestHouses_41 (by decide) ?_
          refine wp_iload_n G 3 dX2_bestHouses_42 rfl ?_
          refine wp_lshl1 (k := u) G rfl (by omega) dX2_bestHouses_43 ?_
          refine wp_ladd G dX2_bestHouses_44 ?_
          refine wp_lstore (lv' := [(4, zJ ((((hs 3) u) * 4096) + ((2 ^ u : Nat) : Int))), (0, zR 48), (1, zI ((pu : Nat) : Int)), (2, zI f), (3, zI ((u : Nat) : Int))]) G dX2_bestHouses_45 (by decide) rfl ?_
          refine wp_aload_n G 1 dX2_bestHouses_47 rfl ?_
          refine wp_iload_n G 4 dX2_bestHouses_48 rfl ?_
          refine wp_iload_n G 3 dX2_bestHouses_49 rfl ?_
          refine wp_cVE (b := 48) (ci := 2) (as := [zI ((u : Nat) : Int), zI f]) (rest := []) (hp2 := (nx, h, [(63, oL 2 501 (knF hs kd dm lw ln f pu gn u))])) G mX2_gainOf lX2_104 iX2_gainOf eX2_gainOf ⟨_, rfl, rfl⟩ dX2_bestHouses_50 h48 rfl rfl (Nat.le_of_ble_eq_true rfl) (rmx_ok hR (by decide) (by decide) (by decide) (by decide)) (t_X2_gainOf (nx := nx) (u := u) (f := f) (gn := (knF hs kd dm lw ln f pu gn u)) ⟨h48, h49, h50, h51, h52, h53, h54, h55, h56, h57, h58, h59, h60, h61, h62, rfl⟩ hH hD hL (by omega) hf) rfl ?_
          refine wp_ldc2 (z := 8388608) G kX2_108 dX2_bestHouses_53 ?_
          refine wp_lmul G dX2_bestHouses_56 ?_
          refine wp_lload G 0 dX2_bestHouses_57 rfl ?_
          refine wp_lsub G dX2_bestHouses_59 ?_
          refine wp_lstore (lv' := [(6, zJ ((gainF hs kd dm lw u f ln * 8388608) - ((((hs 3) u) * 4096) + ((2 ^ u : Nat) : Int)))), (4, zJ ((((hs 3) u) * 4096) + ((2 ^ u : Nat) : Int))), (0, zR 48), (1, zI ((pu : Nat) : Int)), (2, zI f), (3, zI ((u : Nat) : Int))]) G dX2_bestHouses_60 (by decide) rfl ?_
          have hgb := gain_b hH hD hL (u := u) (by omega) hf
          have hpw := pow_4096 (u := u) (by omega)
          refine wp_lload G 0 dX2_bestHouses_62 rfl ?_
          refine wp_lconst (z := 0) G dX2_bestHouses_64 (by decide) ?_
          refine wp_lcmp G (by omega) (by omega) dX2_bestHouses_65 ?_
          refine wp_if_le G dX2_bestHouses_66 (cmpZ_r _ _) (fun kq3 => ?_) (fun kq3 => ?_)
          · have kq3 : ((gainF hs kd dm lw u f ln * 8388608) - ((((hs 3) u) * 4096) + ((2 ^ u : Nat) : Int))) ≤ 0 := Int.not_lt.mp (fun z => absurd (cmpZ_gt.mpr z) (Int.not_lt.mpr kq3))
            refine wp_iinc (lv' := [(3, zI (((u : Nat) : Int) + 1)), (6, zJ ((gainF hs kd dm lw u f ln * 8388608) - ((((hs 3) u) * 4096) + ((2 ^ u : Nat) : Int)))), (4, zJ ((((hs 3) u) * 4096) + ((2 ^ u : Nat) : Int))), (0, zR 48), (1, zI ((pu : Nat) : Int)), (2, zI f)]) G 5 dX2_bestHouses_82 rfl (by decide) rfl ?_
            refine wp_goto G dX2_bestHouses_85 ?_
            refine wp_lv [3, 4, 5, 0] rfl ?_
            exact ih22 (u + 1) (((u : Nat) : Int) + 1) (knF hs kd dm lw ln f pu gn u) (by omega) (by omega) (by rw [knF]; first | (rw [if_pos (by unfold gnU; omega)]; unfold gnU; rw [show (((hs 3 u).toNat : Nat) : Int) = hs 3 u by omega]; done) | (rw [if_neg (by unfold gnU; omega)])) (by omega)
          · have kq3 : 0 < ((gainF hs kd dm lw u f ln * 8388608) - ((((hs 3) u) * 4096) + ((2 ^ u : Nat) : Int))) := cmpZ_gt.mp kq3
            refine wp_aload_n G 2 dX2_bestHouses_69 rfl ?_
            refine wp_aload_n G 2 dX2_bestHouses_70 rfl ?_
            refine wp_get G 5 cOk2 fX2_28 dX2_bestHouses_71 h48 rfl ?_
            refine wp_iload_n G 5 dX2_bestHouses_74 rfl ?_
            refine wp_iald (j := u) G dX2_bestHouses_75 h53 rfl (by omega) (by decide) ?_
            have rrq2 := hH.2.2.2.2.1 u (by omega)
            refine wp_lload G 0 dX2_bestHouses_76 rfl ?_
            refine wp_iload_n G 3 dX2_bestHouses_78 rfl ?_
            rw [show (((hs 3) u) : Int) = (((hs 3 u).toNat : Nat) : Int) by omega]
            refine wp_cVN (b := 48) (ci := 2) (as := [zI (((hs 3 u).toNat : Nat) : Int), zJ ((gainF hs kd dm lw u f ln * 8388608) - (((((hs 3 u).toNat : Nat) : Int) * 4096) + ((2 ^ u : Nat) : Int))), zI ((pu : Nat) : Int)]) (rest := []) (hp2 := (nx, h, [(63, oL 2 501 (ofF (knF hs kd dm lw ln f pu gn u) ((hs 3 u).toNat) ((gainF hs kd dm lw u f ln * 8388608) - (((((hs 3 u).toNat : Nat) : Int) * 4096) + ((2 ^ u : Nat) : Int))) ((hs 3 u).toNat) pu))])) G mX2_offer lX2_110 iX2_offer eX2_offer ⟨_, rfl, rfl⟩ dX2_bestHouses_79 h48 rfl rfl (Nat.le_of_ble_eq_true rfl) (rmx_ok hR (by decide) (by decide) (by decide) (by decide)) (t_X2_offer (nx := nx) (g := ((gainF hs kd dm lw u f ln * 8388608) - (((((hs 3 u).toNat : Nat) : Int) * 4096) + ((2 ^ u : Nat) : Int)))) (pu := pu) (p := ((hs 3 u).toNat)) (gn := (knF hs kd dm lw ln f pu gn u)) h48 rfl (by omega) hpu (fun m hm => by have := hknb m hm; omega) (by omega)) rfl ?_
            refine wp_iinc (lv' := [(3, zI (((u : Nat) : Int) + 1)), (6, zJ ((gainF hs kd dm lw u f ln * 8388608) - (((((hs 3 u).toNat : Nat) : Int) * 4096) + ((2 ^ u : Nat) : Int)))), (4, zJ (((((hs 3 u).toNat : Nat) : Int) * 4096) + ((2 ^ u : Nat) : Int))), (0, zR 48), (1, zI ((pu : Nat) : Int)), (2, zI f)]) G 5 dX2_bestHouses_82 rfl (by decide) rfl ?_
            refine wp_goto G dX2_bestHouses_85 ?_
            refine wp_lv [3, 4, 5, 0] rfl ?_
            exact ih22 (u + 1) (((u : Nat) : Int) + 1) (ofF (knF hs kd dm lw ln f pu gn u) ((hs 3 u).toNat) ((gainF hs kd dm lw u f ln * 8388608) - (((((hs 3 u).toNat : Nat) : Int) * 4096) + ((2 ^ u : Nat) : Int))) ((hs 3 u).toNat) pu) (by omega) (by omega) (by rw [knF]; first | (rw [if_pos (by unfold gnU; omega)]; unfold gnU; rw [show (((hs 3 u).toNat : Nat) : Int) = hs 3 u by omega]; done) | (rw [if_neg (by unfold gnU; omega)])) (by omega)
    · skip
      refine wp_aload_n G 0 dX2_bestHouses_7 rfl ?_
      refine wp_get G 12 cOk2 fX2_51 dX2_bestHouses_8 h48 rfl ?_
      refine wp_iload_n G 3 dX2_bestHouses_11 rfl ?_
      refine wp_lconst (z := 0) G dX2_bestHouses_12 (by decide) ?_
      refine wp_lastE (j := k) (hp2 := (nx, h, [(63, oL 2 501 (fup (fun m => if m < k then 0 else gn m) k 0))])) G dX2_bestHouses_13 rfl rfl (by omega) (by decide) rfl ?_
      refine wp_iinc (lv' := [(3, zI (((k : Nat) : Int) + 1)), (0, zR 48), (1, zI ((pu : Nat) : Int)), (2, zI f)]) G 3 dX2_bestHouses_14 rfl (by decide) rfl ?_
      refine wp_goto G dX2_bestHouses_17 ?_
      refine wp_lv [1, 2, 3, 0] rfl ?_
      exact ih2 (k + 1) (((k : Nat) : Int) + 1) (fup (fun m => if m < k then 0 else gn m) k 0) (by omega) (by omega) (by exact z47_s gn k) (by omega)

