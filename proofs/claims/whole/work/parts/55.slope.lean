noncomputable def ansS (n : Nat) (q : Nat → Nat → Int) (a b m p : Int) : Int := if ¬ (-1 ≤ a ∧ a ≤ 2) then -1000000000000000001 else if ¬ ((0 ≤ b ∧ b ≤ 3999) ∧ (0 ≤ m ∧ m ≤ 90) ∧ (0 ≤ p ∧ p ≤ 1)) then -1000000000000000002 else if cntZ (fun j => cnd q a b j ∧ m ≤ q 4 j) n = 0 then -1000000000000000003 else frc (2 * (cntZ (fun j => cnd q a b j ∧ m ≤ q 4 j) n)).toNat ((cntZ (fun j => cnd q a b j ∧ m ≤ q 4 j) n) + 2 * (sumZ (fun j => ifZ (cnd q a b j ∧ m ≤ q 4 j) (q 4 j - m) 0) n)).toNat p
theorem ansS_1 {n : Nat} {q : Nat → Nat → Int} {a b m p : Int} (h : ¬ (-1 ≤ a ∧ a ≤ 2)) : ansS n q a b m p = -1000000000000000001 := if_pos h
theorem ansS_2 {n : Nat} {q : Nat → Nat → Int} {a b m p : Int} (h1 : -1 ≤ a ∧ a ≤ 2) (h : ¬ ((0 ≤ b ∧ b ≤ 3999) ∧ (0 ≤ m ∧ m ≤ 90) ∧ (0 ≤ p ∧ p ≤ 1))) : ansS n q a b m p = -1000000000000000002 := by
  unfold ansS
  rw [if_neg (fun z => z h1), if_pos h]
theorem ansS_3 {n : Nat} {q : Nat → Nat → Int} {a b m p : Int} (h1 : -1 ≤ a ∧ a ≤ 2) (h : (0 ≤ b ∧ b ≤ 3999) ∧ (0 ≤ m ∧ m ≤ 90) ∧ (0 ≤ p ∧ p ≤ 1)) (h2 : cntZ (fun j => cnd q a b j ∧ m ≤ q 4 j) n = 0) : ansS n q a b m p = -1000000000000000003 := by
  unfold ansS
  rw [if_neg (fun z => z h1), if_neg (fun z => z h), if_pos h2]
theorem ansS_4 {n : Nat} {q : Nat → Nat → Int} {a b m p : Int} (h1 : -1 ≤ a ∧ a ≤ 2) (h : (0 ≤ b ∧ b ≤ 3999) ∧ (0 ≤ m ∧ m ≤ 90) ∧ (0 ≤ p ∧ p ≤ 1)) (h2 : ¬ cntZ (fun j => cnd q a b j ∧ m ≤ q 4 j) n = 0) : ansS n q a b m p = frc (2 * (cntZ (fun j => cnd q a b j ∧ m ≤ q 4 j) n)).toNat ((cntZ (fun j => cnd q a b j ∧ m ≤ q 4 j) n) + 2 * (sumZ (fun j => ifZ (cnd q a b j ∧ m ≤ q 4 j) (q 4 j - m) 0) n)).toNat p := by
  unfold ansS
  rw [if_neg (fun z => z h1), if_neg (fun z => z h), if_neg h2]
theorem sab_b {n : Nat} {q : Nat → Nat → Int} {o : Nat → Nat} {a b m : Int} (hO : okQ n q o) (hm : 0 ≤ m) : 0 ≤ sumZ (fun j => ifZ (cnd q a b j ∧ m ≤ q 4 j) (q 4 j - m) 0) n ∧ sumZ (fun j => ifZ (cnd q a b j ∧ m ≤ q 4 j) (q 4 j - m) 0) n ≤ 4000 := by
  have hn := hO.1
  have := sumZ_b (f := fun j => ifZ (cnd q a b j ∧ m ≤ q 4 j) (q 4 j - m) 0) (lo := 0) (hi := 90) n (fun j hj => by
    have hg := hO.g j (by omega)
    by_cases c : cnd q a b j ∧ m ≤ q 4 j
    · rw [ifZ_y c]; have := c.2; omega
    · rw [ifZ_n c]; decide)
  omega

set_option maxRecDepth 100000 in
set_option maxHeartbeats 4000000 in
theorem t_X9_slope {nx : Nat} {h : Nat → Option PC} {n : Nat} {q : Nat → Nat → Int} {o : Nat → Nat} {ta : Nat → Int} {fc : Nat} {a : Int} {b : Int} {m : Int} {p : Int} (hQ : isQ h n q o) (hO : okQ n q o) (g34 : h 34 = some (oO 0 [zR 35])) (g35 : h 35 = some (oA 0 91 ta)) (h0 : h 0 = some (oO 8 [zR 1, zR 2, zR 11, zR 34, zR 36, zR 42, zR 44, zI ((fc : Nat) : Int), zR 45, zR 48])) (ri_a : r32 a) (ri_b : r32 b) (ri_m : r32 m) (ri_p : r32 p) : Cx 3 (0, 0) yX9_slope cX9_slope 7 (some .long) [zR 0, zI a, zI b, zI m, zI p] nx h (Rt (zJ (ansS n q a b m p)) nx []) := by
  refine cx_of pnX9_slope (Nat.le_of_ble_eq_true rfl) ?_
  intro K G hr hnm hR
  obtain ⟨h2, h3, h4, h5, h6, h7, h8, h9, h10⟩ := id hQ
  have hn40 := hO.1
  show Wp K 7 (Mx K h (Rt (zJ (ansS n q a b m p)) nx []) (0, 0)) (0, 0) 0 [(0, zR 0), (1, zI a), (2, zI b), (3, zI m), (4, zI p)] [] (nx, h, [])
  refine wp_iload_n G 1 dX9_slope_0 rfl ?_
  refine wp_cSE (as := [zI a]) (rest := []) (hp2 := (nx, h, [])) G mX9_isListOrAll lX9_153 sX9_isListOrAll dX9_slope_1 rfl rfl (Nat.le_of_ble_eq_true rfl) (rmx_ok hR (by decide) (by decide) (by decide) (by decide)) (t_X9_isListOrAll (nx := nx) (v := a) (by omega)) rfl ?_
  refine wp_ifne_bt G dX9_slope_4 (fun kq1 => ?_) (fun kq1 => ?_)
  · skip
    refine wp_iload_n G 2 dX9_slope_11 rfl ?_
    refine wp_cSE (as := [zI b]) (rest := []) (hp2 := (nx, h, [])) G mX9_isDay lX9_80 sX9_isDay dX9_slope_12 rfl rfl (Nat.le_of_ble_eq_true rfl) (rmx_ok hR (by decide) (by decide) (by decide) (by decide)) (t_X9_isDay (nx := nx) (v := b) (by omega)) rfl ?_
    refine wp_ifeq_bt G dX9_slope_15 (fun kq2 => ?_) (fun kq2 => ?_)
    · skip
      refine wp_ldc2 (z := -1000000000000000002) G kX9_169 dX9_slope_33 ?_
      exact wp_lreturn G hr dX9_slope_36 ⟨by first | (rw [ansS_1 (by omega)]; done) | (rw [ansS_2 (by omega) (by omega)]; done) | (rw [ansS_3 (by omega) (by omega) (by omega)]; done) | (rw [ansS_4 (by omega) (by omega) (by omega)]), rfl, by rfl⟩
    · skip
      refine wp_iload_n G 3 dX9_slope_18 rfl ?_
      refine wp_cSE (as := [zI m]) (rest := []) (hp2 := (nx, h, [])) G mX9_isGreatness lX9_83 sX9_isGreatness dX9_slope_19 rfl rfl (Nat.le_of_ble_eq_true rfl) (rmx_ok hR (by decide) (by decide) (by decide) (by decide)) (t_X9_isGreatness (nx := nx) (v := m) (by omega)) rfl ?_
      refine wp_ifeq_bt G dX9_slope_22 (fun kq3 => ?_) (fun kq3 => ?_)
      · skip
        refine wp_ldc2 (z := -1000000000000000002) G kX9_169 dX9_slope_33 ?_
        exact wp_lreturn G hr dX9_slope_36 ⟨by first | (rw [ansS_1 (by omega)]; done) | (rw [ansS_2 (by omega) (by omega)]; done) | (rw [ansS_3 (by omega) (by omega) (by omega)]; done) | (rw [ansS_4 (by omega) (by omega) (by omega)]), rfl, by rfl⟩
      · skip
        refine wp_iload G 4 dX9_slope_25 rfl ?_
        refine wp_cSE (as := [zI p]) (rest := []) (hp2 := (nx, h, [])) G mX9_isPart lX9_166 sX9_isPart dX9_slope_27 rfl rfl (Nat.le_of_ble_eq_true rfl) (rmx_ok hR (by decide) (by decide) (by decide) (by decide)) (t_X9_isPart (nx := nx) (v := p) (by omega)) rfl ?_
        refine wp_ifne_bt G dX9_slope_30 (fun kq4 => ?_) (fun kq4 => ?_)
        · skip
          refine wp_aload_n G 0 dX9_slope_37 rfl ?_
          refine wp_get G 3 cOk8 fX9_30 dX9_slope_38 h0 rfl ?_
          refine wp_aload_n G 0 dX9_slope_41 rfl ?_
          refine wp_get G 1 cOk8 fX9_16 dX9_slope_42 h0 rfl ?_
          refine wp_iload_n G 1 dX9_slope_45 rfl ?_
          refine wp_iload_n G 2 dX9_slope_46 rfl ?_
          refine wp_iload_n G 3 dX9_slope_47 rfl ?_
          refine wp_cVE (b := 34) (ci := 0) (as := [zR 2, zI a, zI b, zI m]) (rest := []) (hp2 := (nx, h, [])) G mX0_howMany lX9_156 iX0_howMany eX0_howMany ⟨_, rfl, rfl⟩ dX9_slope_48 g34 rfl rfl (Nat.le_of_ble_eq_true rfl) (rmx_ok hR (by decide) (by decide) (by decide) (by decide)) (t_X0_howMany (nx := nx) (a := a) (b := b) (m := m) hQ hO g34 g35 ri_a ri_b ri_m) rfl ?_
          have hnb := cntZ_r (fun j => cnd q a b j ∧ m ≤ q 4 j) n
          refine wp_istore (lv' := [(5, zI (cntZ (fun j => cnd q a b j ∧ m ≤ q 4 j) n)), (0, zR 0), (1, zI a), (2, zI b), (3, zI m), (4, zI p)]) G dX9_slope_51 (by decide) rfl ?_
          refine wp_iload G 0 dX9_slope_53 rfl ?_
          refine wp_if_ne G dX9_slope_55 (by omega) (fun kq5 => ?_) (fun kq5 => ?_)
          · skip
            refine wp_aload_n G 1 dX9_slope_62 rfl ?_
            refine wp_get G 3 cOk8 fX9_30 dX9_slope_63 h0 rfl ?_
            refine wp_aload_n G 1 dX9_slope_66 rfl ?_
            refine wp_get G 1 cOk8 fX9_16 dX9_slope_67 h0 rfl ?_
            refine wp_iload_n G 2 dX9_slope_70 rfl ?_
            refine wp_iload_n G 3 dX9_slope_71 rfl ?_
            refine wp_iload_n G 4 dX9_slope_72 rfl ?_
            refine wp_cVE (b := 34) (ci := 0) (as := [zR 2, zI a, zI b, zI m]) (rest := []) (hp2 := (nx, h, [])) G mX0_sumAbove lX9_173 iX0_sumAbove eX0_sumAbove ⟨_, rfl, rfl⟩ dX9_slope_73 g34 rfl rfl (Nat.le_of_ble_eq_true rfl) (rmx_ok hR (by decide) (by decide) (by decide) (by decide)) (t_X0_sumAbove (nx := nx) (a := a) (b := b) (m := m) hQ hO g34 g35 ri_a ri_b ri_m) rfl ?_
            have hsb : 0 ≤ sumZ (fun j => ifZ (cnd q a b j ∧ m ≤ q 4 j) (q 4 j - m) 0) n ∧ sumZ (fun j => ifZ (cnd q a b j ∧ m ≤ q 4 j) (q 4 j - m) 0) n ≤ 4000 := sab_b hO (by omega)
            refine wp_istore (lv' := [(6, zI (sumZ (fun j => ifZ (cnd q a b j ∧ m ≤ q 4 j) (q 4 j - m) 0) n)), (5, zI (cntZ (fun j => cnd q a b j ∧ m ≤ q 4 j) n)), (0, zR 0), (1, zI a), (2, zI b), (3, zI m), (4, zI p)]) G dX9_slope_76 (by decide) rfl ?_
            refine wp_ldc2 (z := 2) G kX9_176 dX9_slope_78 ?_
            refine wp_iload G 1 dX9_slope_81 rfl ?_
            refine wp_i2l G (by omega) dX9_slope_83 ?_
            refine wp_lmul G dX9_slope_84 ?_
            refine wp_iload G 1 dX9_slope_85 rfl ?_
            refine wp_i2l G (by omega) dX9_slope_87 ?_
            refine wp_ldc2 (z := 2) G kX9_176 dX9_slope_88 ?_
            refine wp_iload G 0 dX9_slope_91 rfl ?_
            refine wp_i2l G (by omega) dX9_slope_93 ?_
            refine wp_lmul G dX9_slope_94 ?_
            refine wp_ladd G dX9_slope_95 ?_
            refine wp_iload G 6 dX9_slope_96 rfl ?_
            rw [show ((2 * cntZ (fun j => cnd q a b j ∧ m ≤ q 4 j) n) : Int) = (((2 * (cntZ (fun j => cnd q a b j ∧ m ≤ q 4 j) n)).toNat : Nat) : Int) by omega]
            rw [show ((cntZ (fun j => cnd q a b j ∧ m ≤ q 4 j) n + (2 * sumZ (fun j => ifZ (cnd q a b j ∧ m ≤ q 4 j) (q 4 j - m) 0) n)) : Int) = ((((cntZ (fun j => cnd q a b j ∧ m ≤ q 4 j) n) + 2 * (sumZ (fun j => ifZ (cnd q a b j ∧ m ≤ q 4 j) (q 4 j - m) 0) n)).toNat : Nat) : Int) by omega]
            refine wp_cSE (as := [zJ (((2 * (cntZ (fun j => cnd q a b j ∧ m ≤ q 4 j) n)).toNat : Nat) : Int), zJ ((((cntZ (fun j => cnd q a b j ∧ m ≤ q 4 j) n) + 2 * (sumZ (fun j => ifZ (cnd q a b j ∧ m ≤ q 4 j) (q 4 j - m) 0) n)).toNat : Nat) : Int), zI p]) (rest := []) (hp2 := (nx, h, [])) G mX5_partOf lX9_178 sX5_partOf dX9_slope_98 rfl rfl (Nat.le_of_ble_eq_true rfl) (rmx_ok hR (by decide) (by decide) (by decide) (by decide)) (t_X5_partOf (nx := nx) (a := ((2 * (cntZ (fun j => cnd q a b j ∧ m ≤ q 4 j) n)).toNat)) (b := (((cntZ (fun j => cnd q a b j ∧ m ≤ q 4 j) n) + 2 * (sumZ (fun j => ifZ (cnd q a b j ∧ m ≤ q 4 j) (q 4 j - m) 0) n)).toNat)) (p := p) (by omega) (by omega) (by omega) ri_p) rfl ?_
            exact wp_lreturn G hr dX9_slope_101 ⟨by first | (rw [ansS_1 (by omega)]; done) | (rw [ansS_2 (by omega) (by omega)]; done) | (rw [ansS_3 (by omega) (by omega) (by omega)]; done) | (rw [ansS_4 (by omega) (by omega) (by omega)]), rfl, by rfl⟩
          · skip
            refine wp_ldc2 (z := -1000000000000000003) G kX9_171 dX9_slope_58 ?_
            exact wp_lreturn G hr dX9_slope_61 ⟨by first | (rw [ansS_1 (by omega)]; done) | (rw [ansS_2 (by omega) (by omega)]; done) | (rw [ansS_3 (by omega) (by omega) (by omega)]; done) | (rw [ansS_4 (by omega) (by omega) (by omega)]), rfl, by rfl⟩
        · skip
          refine wp_ldc2 (z := -1000000000000000002) G kX9_169 dX9_slope_33 ?_
          exact wp_lreturn G hr dX9_slope_36 ⟨by first | (rw [ansS_1 (by omega)]; done) | (rw [ansS_2 (by omega) (by omega)]; done) | (rw [ansS_3 (by omega) (by omega) (by omega)]; done) | (rw [ansS_4 (by omega) (by omega) (by omega)]), rfl, by rfl⟩
  · skip
    refine wp_ldc2 (z := -1000000000000000001) G kX9_164 dX9_slope_7 ?_
    exact wp_lreturn G hr dX9_slope_10 ⟨by first | (rw [ansS_1 (by omega)]; done) | (rw [ansS_2 (by omega) (by omega)]; done) | (rw [ansS_3 (by omega) (by omega) (by omega)]; done) | (rw [ansS_4 (by omega) (by omega) (by omega)]), rfl, by rfl⟩

