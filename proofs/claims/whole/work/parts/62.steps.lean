
set_option maxRecDepth 100000 in
set_option maxHeartbeats 4000000 in
theorem t_X4_stepsOf0 {nx : Nat} {h : Nat → Option PC} {n : Nat} {q : Nat → Nat → Int} {o : Nat → Nat} {pr : Nat → Int} {fa : Nat → Int} {sp : Nat → Int} {fo : Nat → Int} {de : Nat → Int} (hQ : isQ h n q o) (hO : okQ n q o) (hM : isMo h pr fa sp fo de) (hS : okS pr fa sp) : Cx 0 (0, 0) yX4_stepsOf cX4_stepsOf 2 (some (.array .int)) [zR 36, zI 0] nx h (Rt (zR 37) nx []) := by
  refine cx_of pnX4_stepsOf (Nat.le_of_ble_eq_true rfl) ?_
  intro K G hr hnm hR
  obtain ⟨h2, h3, h4, h5, h6, h7, h8, h9, h10⟩ := id hQ
  have hn40 := hO.1
  obtain ⟨h36, h37, h38, h39, h40, h41⟩ := id hM
  show Wp K 2 (Mx K h (Rt (zR 37) nx []) (0, 0)) (0, 0) 0 [(0, zR 36), (1, zI 0)] [] (nx, h, [])
  refine wp_iload_n G 1 dX4_stepsOf_0 rfl ?_
  refine wp_tableIn (off := 27) (tgt := 28) G dX4_stepsOf_1 (by decide) (by decide) (by decide) rfl (by decide) ?_
  refine wp_aload_n G 0 dX4_stepsOf_28 rfl ?_
  refine wp_get G 0 cOk4 fX4_9 dX4_stepsOf_29 h36 rfl ?_
  exact wp_areturn (r := some 37) G hr (Or.inr ⟨_, rfl⟩) dX4_stepsOf_32 ⟨by rfl, rfl, by rfl⟩

set_option maxRecDepth 100000 in
set_option maxHeartbeats 4000000 in
theorem t_X9_step0 {nx : Nat} {h : Nat → Option PC} {n : Nat} {q : Nat → Nat → Int} {o : Nat → Nat} {pr : Nat → Int} {fa : Nat → Int} {sp : Nat → Int} {fo : Nat → Int} {de : Nat → Int} {fc : Nat} {b : Int} {v : Int} (hQ : isQ h n q o) (hO : okQ n q o) (hM : isMo h pr fa sp fo de) (hS : okS pr fa sp) (h0 : h 0 = some (oO 8 [zR 1, zR 2, zR 11, zR 34, zR 36, zR 42, zR 44, zI ((fc : Nat) : Int), zR 45, zR 48])) (ri_b : r32 b) (ri_v : r32 v) : Cx 1 (0, 0) yX9_step cX9_step 6 (some .int) [zR 0, zI 0, zI b, zI v] nx h (fun rr nx' l' => nx' = nx ∧ ((¬ ((0 ≤ b ∧ b ≤ 9) ∧ (0 ≤ v ∧ v ≤ 100)) ∧ rr = some (zI (-2)) ∧ l' = []) ∨ (∃ j : Nat, b = ((j : Nat) : Int) ∧ j < 10 ∧ (0 ≤ v ∧ v ≤ 100) ∧ rr = some (zI (pr j)) ∧ l' = [(37, oA 0 10 (fup pr j v))]))) := by
  refine cx_of pnX9_step (Nat.le_of_ble_eq_true rfl) ?_
  intro K G hr hnm hR
  obtain ⟨h2, h3, h4, h5, h6, h7, h8, h9, h10⟩ := id hQ
  have hn40 := hO.1
  obtain ⟨h36, h37, h38, h39, h40, h41⟩ := id hM
  show Wp K 6 (Mx K h (fun rr nx' l' => nx' = nx ∧ ((¬ ((0 ≤ b ∧ b ≤ 9) ∧ (0 ≤ v ∧ v ≤ 100)) ∧ rr = some (zI (-2)) ∧ l' = []) ∨ (∃ j : Nat, b = ((j : Nat) : Int) ∧ j < 10 ∧ (0 ≤ v ∧ v ≤ 100) ∧ rr = some (zI (pr j)) ∧ l' = [(37, oA 0 10 (fup pr j v))]))) (0, 0)) (0, 0) 0 [(0, zR 0), (1, zI 0), (2, zI b), (3, zI v)] [] (nx, h, [])
  refine wp_aload_n G 0 dX9_step_0 rfl ?_
  refine wp_get G 4 cOk8 fX9_37 dX9_step_1 h0 rfl ?_
  refine wp_iload_n G 1 dX9_step_4 rfl ?_
  refine wp_cVE (b := 36) (ci := 4) (as := [zI 0]) (rest := []) (hp2 := (nx, h, [])) G mX4_stepsOf lX9_198 iX4_stepsOf eX4_stepsOf ⟨_, rfl, rfl⟩ dX9_step_5 h36 rfl rfl (Nat.le_of_ble_eq_true rfl) (rmx_ok hR (by decide) (by decide) (by decide) (by decide)) (t_X4_stepsOf0 (nx := nx)  hQ hO hM hS) rfl ?_
  refine wp_astore (lv' := [(4, zR 37), (0, zR 0), (1, zI 0), (2, zI b), (3, zI v)]) G dX9_step_8 (by decide) rfl ?_
  refine wp_aload G 0 dX9_step_10 rfl ?_
  refine wp_ifnull (r := (some 37)) G dX9_step_12 (fun z => by cases z) (fun _ _ => ?_)
  refine wp_iload_n G 3 dX9_step_15 rfl ?_
  refine wp_iconst G dX9_step_16 ?_
  refine wp_aload G 0 dX9_step_17 rfl ?_
  refine wp_alen G (by decide) dX9_step_19 h37 ?_
  refine wp_iconst G dX9_step_20 ?_
  refine wp_isub G dX9_step_21 ?_
  refine wp_cSE (as := [zI b, zI 0, zI (((10 : Nat) : Int) - 1)]) (rest := []) (hp2 := (nx, h, [])) G mX9_within lX9_127 sX9_within dX9_step_22 rfl rfl (Nat.le_of_ble_eq_true rfl) (rmx_ok hR (by decide) (by decide) (by decide) (by decide)) (t_X9_within (nx := nx) (v := b) (lo := 0) (hi := (((10 : Nat) : Int) - 1)) (by omega) (by omega) (by omega)) rfl ?_
  refine wp_ifeq_bt G dX9_step_25 (fun kq2 => ?_) (fun kq2 => ?_)
  · skip
    refine wp_bipush G dX9_step_38 (by decide) ?_
    exact wp_ireturn G hr dX9_step_40 (by exact ⟨rfl, Or.inl (⟨by omega, rfl, rfl⟩)⟩)
  · skip
    refine wp_iload_n G 4 dX9_step_28 rfl ?_
    refine wp_iconst G dX9_step_29 ?_
    refine wp_bipush G dX9_step_30 (by decide) ?_
    refine wp_cSE (as := [zI v, zI 0, zI 100]) (rest := []) (hp2 := (nx, h, [])) G mX9_within lX9_127 sX9_within dX9_step_32 rfl rfl (Nat.le_of_ble_eq_true rfl) (rmx_ok hR (by decide) (by decide) (by decide) (by decide)) (t_X9_within (nx := nx) (v := v) (lo := 0) (hi := 100) ri_v (by omega) (by omega)) rfl ?_
    refine wp_ifne_bt G dX9_step_35 (fun kq3 => ?_) (fun kq3 => ?_)
    · skip
      obtain ⟨bb, e_bb⟩ := Int.eq_ofNat_of_zero_le (show 0 ≤ b from (by omega))
      subst e_bb
      refine wp_aload G 0 dX9_step_41 rfl ?_
      refine wp_iload_n G 3 dX9_step_43 rfl ?_
      refine wp_iald (j := bb) G dX9_step_44 h37 rfl (by omega) (by decide) ?_
      have rrq1 := hS.1 bb (by omega)
      refine wp_istore (lv' := [(5, zI (pr bb)), (4, zR 37), (0, zR 0), (1, zI 0), (2, zI ((bb : Nat) : Int)), (3, zI v)]) G dX9_step_45 (by decide) rfl ?_
      refine wp_aload G 1 dX9_step_47 rfl ?_
      refine wp_iload_n G 4 dX9_step_49 rfl ?_
      refine wp_iload_n G 5 dX9_step_50 rfl ?_
      refine wp_iastE (j := bb) (hp2 := (nx, h, [(37, oA 0 10 (fup pr bb v))])) G dX9_step_51 h37 rfl (by omega) (by decide) rfl ?_
      refine wp_iload G 0 dX9_step_52 rfl ?_
      exact wp_ireturn G hr dX9_step_54 (by exact ⟨rfl, Or.inr (⟨bb, rfl, by omega, by omega, rfl, rfl⟩)⟩)
    · skip
      refine wp_bipush G dX9_step_38 (by decide) ?_
      exact wp_ireturn G hr dX9_step_40 (by exact ⟨rfl, Or.inl (⟨by omega, rfl, rfl⟩)⟩)

set_option maxRecDepth 100000 in
set_option maxHeartbeats 4000000 in
theorem t_X10_step0 {nx : Nat} {h : Nat → Option PC} {n : Nat} {q : Nat → Nat → Int} {o : Nat → Nat} {fc : Nat} {hn : Nat} {ln : Nat} {ma : Int} {mb : Int} {st : Nat → Int} {pr : Nat → Int} {fa : Nat → Int} {sp : Nat → Int} {b : Int} {v : Int} (hQ : isM h n q o fc hn ln ma mb st) (hO : okQ n q o) (hN : okN st) (hMs : isMs h pr fa sp) (hS : okS pr fa sp) (ri_b : r32 b) (ri_v : r32 v) : Cx 1 (0, 0) yX10_step cX10_step 5 (some .int) [zR 64, zI 0, zI b, zI v] nx h (fun rr nx' l' => nx' = nx ∧ ((¬ ((0 ≤ b ∧ b ≤ 9) ∧ (0 ≤ v ∧ v ≤ 100)) ∧ rr = some (zI (-2)) ∧ l' = []) ∨ (∃ j : Nat, b = ((j : Nat) : Int) ∧ j < 10 ∧ (0 ≤ v ∧ v ≤ 100) ∧ rr = some (zI (pr j)) ∧ l' = [(77, oA 0 10 (fup pr j v))]))) := by
  refine cx_of pnX10_step (Nat.le_of_ble_eq_true rfl) ?_
  intro K G hr hnm hR
  obtain ⟨h64, h65, h66, h67, h68, h69, h70, h71, h72, h73⟩ := id hQ
  have hn40 := hO.1
  obtain ⟨hN0, hN1, hN2, hN3, hN4⟩ := id hN
  obtain ⟨h77, h78, h79⟩ := id hMs
  show Wp K 5 (Mx K h (fun rr nx' l' => nx' = nx ∧ ((¬ ((0 ≤ b ∧ b ≤ 9) ∧ (0 ≤ v ∧ v ≤ 100)) ∧ rr = some (zI (-2)) ∧ l' = []) ∨ (∃ j : Nat, b = ((j : Nat) : Int) ∧ j < 10 ∧ (0 ≤ v ∧ v ≤ 100) ∧ rr = some (zI (pr j)) ∧ l' = [(77, oA 0 10 (fup pr j v))]))) (0, 0)) (0, 0) 0 [(0, zR 64), (1, zI 0), (2, zI b), (3, zI v)] [] (nx, h, [])
  refine wp_iload_n G 1 dX10_step_0 rfl ?_
  refine wp_i2l G (by omega) dX10_step_1 ?_
  refine wp_lconst (z := 0) G dX10_step_2 (by decide) ?_
  refine wp_ldc2 (z := 2) G kX10_110 dX10_step_3 ?_
  refine wp_cSE (as := [zJ 0, zJ 0, zJ 2]) (rest := []) (hp2 := (nx, h, [])) G mX10_in lX10_100 sX10_in dX10_step_6 rfl rfl (Nat.le_of_ble_eq_true rfl) (rmx_ok hR (by decide) (by decide) (by decide) (by decide)) (t_X10_in (nx := nx) (v := 0) (lo := 0) (hi := 2) (by omega) (by omega) (by omega)) rfl ?_
  refine wp_ifeq_bt G dX10_step_9 (fun kq1 => ?_) (fun kq1 => ?_)
  · skip
    refine wp_bipush G dX10_step_46 (by decide) ?_
    exact wp_ireturn G hr dX10_step_48 (by first | (exfalso; omega) | exact ⟨rfl, Or.inl (⟨by omega, rfl, rfl⟩)⟩)
  · skip
    refine wp_iload_n G 2 dX10_step_12 rfl ?_
    refine wp_i2l G (by omega) dX10_step_13 ?_
    refine wp_lconst (z := 0) G dX10_step_14 (by decide) ?_
    refine wp_iload_n G 1 dX10_step_15 rfl ?_
    refine wp_if_ne G dX10_step_16 (by omega) (fun z => by exfalso; omega) (fun _ => ?_)
    refine wp_ldc2 (z := 9) G kX10_204 dX10_step_19 ?_
    refine wp_goto G dX10_step_22 ?_
    refine wp_cSE (as := [zJ b, zJ 0, zJ 9]) (rest := []) (hp2 := (nx, h, [])) G mX10_in lX10_100 sX10_in dX10_step_28 rfl rfl (Nat.le_of_ble_eq_true rfl) (rmx_ok hR (by decide) (by decide) (by decide) (by decide)) (t_X10_in (nx := nx) (v := b) (lo := 0) (hi := 9) (by omega) (by omega) (by omega)) rfl ?_
    refine wp_ifeq_bt G dX10_step_31 (fun kq3 => ?_) (fun kq3 => ?_)
    · skip
      refine wp_bipush G dX10_step_46 (by decide) ?_
      exact wp_ireturn G hr dX10_step_48 (by first | (exfalso; omega) | exact ⟨rfl, Or.inl (⟨by omega, rfl, rfl⟩)⟩)
    · skip
      refine wp_iload_n G 3 dX10_step_34 rfl ?_
      refine wp_i2l G (by omega) dX10_step_35 ?_
      refine wp_lconst (z := 0) G dX10_step_36 (by decide) ?_
      refine wp_ldc2 (z := 100) G kX10_198 dX10_step_37 ?_
      refine wp_cSE (as := [zJ v, zJ 0, zJ 100]) (rest := []) (hp2 := (nx, h, [])) G mX10_in lX10_100 sX10_in dX10_step_40 rfl rfl (Nat.le_of_ble_eq_true rfl) (rmx_ok hR (by decide) (by decide) (by decide) (by decide)) (t_X10_in (nx := nx) (v := v) (lo := 0) (hi := 100) (by omega) (by omega) (by omega)) rfl ?_
      refine wp_ifne_bt G dX10_step_43 (fun kq4 => ?_) (fun kq4 => ?_)
      · skip
        obtain ⟨bb, e_bb⟩ := Int.eq_ofNat_of_zero_le (show 0 ≤ b from (by omega))
        subst e_bb
        refine wp_iload_n G 1 dX10_step_49 rfl ?_
        refine wp_if_ne G dX10_step_50 (by omega) (fun z => by exfalso; omega) (fun _ => ?_)
        refine wp_aload_n G 0 dX10_step_53 rfl ?_
        refine wp_get G 15 cOk9 fX10_48 dX10_step_54 h64 rfl ?_
        refine wp_iload_n G 2 dX10_step_57 rfl ?_
        refine wp_iald (j := bb) G dX10_step_58 h77 rfl (by omega) (by decide) ?_
        have rrq1 := hS.1 bb (by omega)
        refine wp_goto G dX10_step_59 ?_
        refine wp_istore (lv' := [(4, zI (pr bb)), (0, zR 64), (1, zI 0), (2, zI ((bb : Nat) : Int)), (3, zI v)]) G dX10_step_82 (by decide) rfl ?_
        refine wp_iload_n G 2 dX10_step_84 rfl ?_
        refine wp_if_ne G dX10_step_85 (by omega) (fun z => by exfalso; omega) (fun _ => ?_)
        refine wp_aload_n G 1 dX10_step_88 rfl ?_
        refine wp_get G 15 cOk9 fX10_48 dX10_step_89 h64 rfl ?_
        refine wp_iload_n G 3 dX10_step_92 rfl ?_
        refine wp_iload_n G 4 dX10_step_93 rfl ?_
        refine wp_iastE (j := bb) (hp2 := (nx, h, [(77, oA 0 10 (fup pr bb v))])) G dX10_step_94 h77 rfl (by omega) (by decide) rfl ?_
        refine wp_goto G dX10_step_95 ?_
        refine wp_iload G 0 dX10_step_120 rfl ?_
        exact wp_ireturn G hr dX10_step_122 (by first | (exfalso; omega) | exact ⟨rfl, Or.inr (⟨bb, rfl, by omega, by omega, rfl, rfl⟩)⟩)
      · skip
        refine wp_bipush G dX10_step_46 (by decide) ?_
        exact wp_ireturn G hr dX10_step_48 (by first | (exfalso; omega) | exact ⟨rfl, Or.inl (⟨by omega, rfl, rfl⟩)⟩)

set_option maxRecDepth 100000 in
set_option maxHeartbeats 4000000 in
theorem t_X4_stepsOf1 {nx : Nat} {h : Nat → Option PC} {n : Nat} {q : Nat → Nat → Int} {o : Nat → Nat} {pr : Nat → Int} {fa : Nat → Int} {sp : Nat → Int} {fo : Nat → Int} {de : Nat → Int} (hQ : isQ h n q o) (hO : okQ n q o) (hM : isMo h pr fa sp fo de) (hS : okS pr fa sp) : Cx 0 (0, 0) yX4_stepsOf cX4_stepsOf 2 (some (.array .int)) [zR 36, zI 1] nx h (Rt (zR 38) nx []) := by
  refine cx_of pnX4_stepsOf (Nat.le_of_ble_eq_true rfl) ?_
  intro K G hr hnm hR
  obtain ⟨h2, h3, h4, h5, h6, h7, h8, h9, h10⟩ := id hQ
  have hn40 := hO.1
  obtain ⟨h36, h37, h38, h39, h40, h41⟩ := id hM
  show Wp K 2 (Mx K h (Rt (zR 38) nx []) (0, 0)) (0, 0) 0 [(0, zR 36), (1, zI 1)] [] (nx, h, [])
  refine wp_iload_n G 1 dX4_stepsOf_0 rfl ?_
  refine wp_tableIn (off := 32) (tgt := 33) G dX4_stepsOf_1 (by decide) (by decide) (by decide) rfl (by decide) ?_
  refine wp_aload_n G 0 dX4_stepsOf_33 rfl ?_
  refine wp_get G 1 cOk4 fX4_15 dX4_stepsOf_34 h36 rfl ?_
  exact wp_areturn (r := some 38) G hr (Or.inr ⟨_, rfl⟩) dX4_stepsOf_37 ⟨by rfl, rfl, by rfl⟩

set_option maxRecDepth 100000 in
set_option maxHeartbeats 4000000 in
theorem t_X9_step1 {nx : Nat} {h : Nat → Option PC} {n : Nat} {q : Nat → Nat → Int} {o : Nat → Nat} {pr : Nat → Int} {fa : Nat → Int} {sp : Nat → Int} {fo : Nat → Int} {de : Nat → Int} {fc : Nat} {b : Int} {v : Int} (hQ : isQ h n q o) (hO : okQ n q o) (hM : isMo h pr fa sp fo de) (hS : okS pr fa sp) (h0 : h 0 = some (oO 8 [zR 1, zR 2, zR 11, zR 34, zR 36, zR 42, zR 44, zI ((fc : Nat) : Int), zR 45, zR 48])) (ri_b : r32 b) (ri_v : r32 v) : Cx 1 (0, 0) yX9_step cX9_step 6 (some .int) [zR 0, zI 1, zI b, zI v] nx h (fun rr nx' l' => nx' = nx ∧ ((¬ ((0 ≤ b ∧ b ≤ 7) ∧ (0 ≤ v ∧ v ≤ 100)) ∧ rr = some (zI (-2)) ∧ l' = []) ∨ (∃ j : Nat, b = ((j : Nat) : Int) ∧ j < 8 ∧ (0 ≤ v ∧ v ≤ 100) ∧ rr = some (zI (fa j)) ∧ l' = [(38, oA 0 8 (fup fa j v))]))) := by
  refine cx_of pnX9_step (Nat.le_of_ble_eq_true rfl) ?_
  intro K G hr hnm hR
  obtain ⟨h2, h3, h4, h5, h6, h7, h8, h9, h10⟩ := id hQ
  have hn40 := hO.1
  obtain ⟨h36, h37, h38, h39, h40, h41⟩ := id hM
  show Wp K 6 (Mx K h (fun rr nx' l' => nx' = nx ∧ ((¬ ((0 ≤ b ∧ b ≤ 7) ∧ (0 ≤ v ∧ v ≤ 100)) ∧ rr = some (zI (-2)) ∧ l' = []) ∨ (∃ j : Nat, b = ((j : Nat) : Int) ∧ j < 8 ∧ (0 ≤ v ∧ v ≤ 100) ∧ rr = some (zI (fa j)) ∧ l' = [(38, oA 0 8 (fup fa j v))]))) (0, 0)) (0, 0) 0 [(0, zR 0), (1, zI 1), (2, zI b), (3, zI v)] [] (nx, h, [])
  refine wp_aload_n G 0 dX9_step_0 rfl ?_
  refine wp_get G 4 cOk8 fX9_37 dX9_step_1 h0 rfl ?_
  refine wp_iload_n G 1 dX9_step_4 rfl ?_
  refine wp_cVE (b := 36) (ci := 4) (as := [zI 1]) (rest := []) (hp2 := (nx, h, [])) G mX4_stepsOf lX9_198 iX4_stepsOf eX4_stepsOf ⟨_, rfl, rfl⟩ dX9_step_5 h36 rfl rfl (Nat.le_of_ble_eq_true rfl) (rmx_ok hR (by decide) (by decide) (by decide) (by decide)) (t_X4_stepsOf1 (nx := nx)  hQ hO hM hS) rfl ?_
  refine wp_astore (lv' := [(4, zR 38), (0, zR 0), (1, zI 1), (2, zI b), (3, zI v)]) G dX9_step_8 (by decide) rfl ?_
  refine wp_aload G 0 dX9_step_10 rfl ?_
  refine wp_ifnull (r := (some 38)) G dX9_step_12 (fun z => by cases z) (fun _ _ => ?_)
  refine wp_iload_n G 3 dX9_step_15 rfl ?_
  refine wp_iconst G dX9_step_16 ?_
  refine wp_aload G 0 dX9_step_17 rfl ?_
  refine wp_alen G (by decide) dX9_step_19 h38 ?_
  refine wp_iconst G dX9_step_20 ?_
  refine wp_isub G dX9_step_21 ?_
  refine wp_cSE (as := [zI b, zI 0, zI (((8 : Nat) : Int) - 1)]) (rest := []) (hp2 := (nx, h, [])) G mX9_within lX9_127 sX9_within dX9_step_22 rfl rfl (Nat.le_of_ble_eq_true rfl) (rmx_ok hR (by decide) (by decide) (by decide) (by decide)) (t_X9_within (nx := nx) (v := b) (lo := 0) (hi := (((8 : Nat) : Int) - 1)) (by omega) (by omega) (by omega)) rfl ?_
  refine wp_ifeq_bt G dX9_step_25 (fun kq2 => ?_) (fun kq2 => ?_)
  · skip
    refine wp_bipush G dX9_step_38 (by decide) ?_
    exact wp_ireturn G hr dX9_step_40 (by exact ⟨rfl, Or.inl (⟨by omega, rfl, rfl⟩)⟩)
  · skip
    refine wp_iload_n G 4 dX9_step_28 rfl ?_
    refine wp_iconst G dX9_step_29 ?_
    refine wp_bipush G dX9_step_30 (by decide) ?_
    refine wp_cSE (as := [zI v, zI 0, zI 100]) (rest := []) (hp2 := (nx, h, [])) G mX9_within lX9_127 sX9_within dX9_step_32 rfl rfl (Nat.le_of_ble_eq_true rfl) (rmx_ok hR (by decide) (by decide) (by decide) (by decide)) (t_X9_within (nx := nx) (v := v) (lo := 0) (hi := 100) ri_v (by omega) (by omega)) rfl ?_
    refine wp_ifne_bt G dX9_step_35 (fun kq3 => ?_) (fun kq3 => ?_)
    · skip
      obtain ⟨bb, e_bb⟩ := Int.eq_ofNat_of_zero_le (show 0 ≤ b from (by omega))
      subst e_bb
      refine wp_aload G 0 dX9_step_41 rfl ?_
      refine wp_iload_n G 3 dX9_step_43 rfl ?_
      refine wp_iald (j := bb) G dX9_step_44 h38 rfl (by omega) (by decide) ?_
      have rrq1 := hS.2.1 bb (by omega)
      refine wp_istore (lv' := [(5, zI (fa bb)), (4, zR 38), (0, zR 0), (1, zI 1), (2, zI ((bb : Nat) : Int)), (3, zI v)]) G dX9_step_45 (by decide) rfl ?_
      refine wp_aload G 1 dX9_step_47 rfl ?_
      refine wp_iload_n G 4 dX9_step_49 rfl ?_
      refine wp_iload_n G 5 dX9_step_50 rfl ?_
      refine wp_iastE (j := bb) (hp2 := (nx, h, [(38, oA 0 8 (fup fa bb v))])) G dX9_step_51 h38 rfl (by omega) (by decide) rfl ?_
      refine wp_iload G 0 dX9_step_52 rfl ?_
      exact wp_ireturn G hr dX9_step_54 (by exact ⟨rfl, Or.inr (⟨bb, rfl, by omega, by omega, rfl, rfl⟩)⟩)
    · skip
      refine wp_bipush G dX9_step_38 (by decide) ?_
      exact wp_ireturn G hr dX9_step_40 (by exact ⟨rfl, Or.inl (⟨by omega, rfl, rfl⟩)⟩)

set_option maxRecDepth 100000 in
set_option maxHeartbeats 4000000 in
theorem t_X10_step1 {nx : Nat} {h : Nat → Option PC} {n : Nat} {q : Nat → Nat → Int} {o : Nat → Nat} {fc : Nat} {hn : Nat} {ln : Nat} {ma : Int} {mb : Int} {st : Nat → Int} {pr : Nat → Int} {fa : Nat → Int} {sp : Nat → Int} {b : Int} {v : Int} (hQ : isM h n q o fc hn ln ma mb st) (hO : okQ n q o) (hN : okN st) (hMs : isMs h pr fa sp) (hS : okS pr fa sp) (ri_b : r32 b) (ri_v : r32 v) : Cx 1 (0, 0) yX10_step cX10_step 5 (some .int) [zR 64, zI 1, zI b, zI v] nx h (fun rr nx' l' => nx' = nx ∧ ((¬ ((0 ≤ b ∧ b ≤ 7) ∧ (0 ≤ v ∧ v ≤ 100)) ∧ rr = some (zI (-2)) ∧ l' = []) ∨ (∃ j : Nat, b = ((j : Nat) : Int) ∧ j < 8 ∧ (0 ≤ v ∧ v ≤ 100) ∧ rr = some (zI (fa j)) ∧ l' = [(78, oA 0 8 (fup fa j v))]))) := by
  refine cx_of pnX10_step (Nat.le_of_ble_eq_true rfl) ?_
  intro K G hr hnm hR
  obtain ⟨h64, h65, h66, h67, h68, h69, h70, h71, h72, h73⟩ := id hQ
  have hn40 := hO.1
  obtain ⟨hN0, hN1, hN2, hN3, hN4⟩ := id hN
  obtain ⟨h77, h78, h79⟩ := id hMs
  show Wp K 5 (Mx K h (fun rr nx' l' => nx' = nx ∧ ((¬ ((0 ≤ b ∧ b ≤ 7) ∧ (0 ≤ v ∧ v ≤ 100)) ∧ rr = some (zI (-2)) ∧ l' = []) ∨ (∃ j : Nat, b = ((j : Nat) : Int) ∧ j < 8 ∧ (0 ≤ v ∧ v ≤ 100) ∧ rr = some (zI (fa j)) ∧ l' = [(78, oA 0 8 (fup fa j v))]))) (0, 0)) (0, 0) 0 [(0, zR 64), (1, zI 1), (2, zI b), (3, zI v)] [] (nx, h, [])
  refine wp_iload_n G 1 dX10_step_0 rfl ?_
  refine wp_i2l G (by omega) dX10_step_1 ?_
  refine wp_lconst (z := 0) G dX10_step_2 (by decide) ?_
  refine wp_ldc2 (z := 2) G kX10_110 dX10_step_3 ?_
  refine wp_cSE (as := [zJ 1, zJ 0, zJ 2]) (rest := []) (hp2 := (nx, h, [])) G mX10_in lX10_100 sX10_in dX10_step_6 rfl rfl (Nat.le_of_ble_eq_true rfl) (rmx_ok hR (by decide) (by decide) (by decide) (by decide)) (t_X10_in (nx := nx) (v := 1) (lo := 0) (hi := 2) (by omega) (by omega) (by omega)) rfl ?_
  refine wp_ifeq_bt G dX10_step_9 (fun kq1 => ?_) (fun kq1 => ?_)
  · skip
    refine wp_bipush G dX10_step_46 (by decide) ?_
    exact wp_ireturn G hr dX10_step_48 (by first | (exfalso; omega) | exact ⟨rfl, Or.inl (⟨by omega, rfl, rfl⟩)⟩)
  · skip
    refine wp_iload_n G 2 dX10_step_12 rfl ?_
    refine wp_i2l G (by omega) dX10_step_13 ?_
    refine wp_lconst (z := 0) G dX10_step_14 (by decide) ?_
    refine wp_iload_n G 1 dX10_step_15 rfl ?_
    refine wp_if_ne G dX10_step_16 (by omega) (fun _ => ?_) (fun z => by exfalso; omega)
    refine wp_ldc2 (z := 7) G kX10_206 dX10_step_25 ?_
    refine wp_cSE (as := [zJ b, zJ 0, zJ 7]) (rest := []) (hp2 := (nx, h, [])) G mX10_in lX10_100 sX10_in dX10_step_28 rfl rfl (Nat.le_of_ble_eq_true rfl) (rmx_ok hR (by decide) (by decide) (by decide) (by decide)) (t_X10_in (nx := nx) (v := b) (lo := 0) (hi := 7) (by omega) (by omega) (by omega)) rfl ?_
    refine wp_ifeq_bt G dX10_step_31 (fun kq3 => ?_) (fun kq3 => ?_)
    · skip
      refine wp_bipush G dX10_step_46 (by decide) ?_
      exact wp_ireturn G hr dX10_step_48 (by first | (exfalso; omega) | exact ⟨rfl, Or.inl (⟨by omega, rfl, rfl⟩)⟩)
    · skip
      refine wp_iload_n G 3 dX10_step_34 rfl ?_
      refine wp_i2l G (by omega) dX10_step_35 ?_
      refine wp_lconst (z := 0) G dX10_step_36 (by decide) ?_
      refine wp_ldc2 (z := 100) G kX10_198 dX10_step_37 ?_
      refine wp_cSE (as := [zJ v, zJ 0, zJ 100]) (rest := []) (hp2 := (nx, h, [])) G mX10_in lX10_100 sX10_in dX10_step_40 rfl rfl (Nat.le_of_ble_eq_true rfl) (rmx_ok hR (by decide) (by decide) (by decide) (by decide)) (t_X10_in (nx := nx) (v := v) (lo := 0) (hi := 100) (by omega) (by omega) (by omega)) rfl ?_
      refine wp_ifne_bt G dX10_step_43 (fun kq4 => ?_) (fun kq4 => ?_)
      · skip
        obtain ⟨bb, e_bb⟩ := Int.eq_ofNat_of_zero_le (show 0 ≤ b from (by omega))
        subst e_bb
        refine wp_iload_n G 1 dX10_step_49 rfl ?_
        refine wp_if_ne G dX10_step_50 (by omega) (fun _ => ?_) (fun z => by exfalso; omega)
        refine wp_iload_n G 1 dX10_step_62 rfl ?_
        refine wp_iconst G dX10_step_63 ?_
        refine wp_icmp_ne G dX10_step_64 (by omega) (by omega) (fun kq6 => ?_) (fun kq6 => ?_)
        · skip
          refine wp_aload_n G 0 dX10_step_76 rfl ?_
          refine wp_get G 17 cOk9 fX10_54 dX10_step_77 h64 rfl ?_
          refine wp_iload_n G 2 dX10_step_80 rfl ?_
          refine wp_iald (j := bb) G dX10_step_81 h79 rfl (by omega) (by decide) ?_
          have rrq1 := hS.2.2 bb (by omega)
          refine wp_istore (lv' := [(4, zI (sp bb)), (0, zR 64), (1, zI 1), (2, zI ((bb : Nat) : Int)), (3, zI v)]) G dX10_step_82 (by decide) rfl ?_
          refine wp_iload_n G 2 dX10_step_84 rfl ?_
          refine wp_if_ne G dX10_step_85 (by omega) (fun _ => ?_) (fun z => by exfalso; omega)
          refine wp_iload_n G 2 dX10_step_98 rfl ?_
          refine wp_iconst G dX10_step_99 ?_
          refine wp_icmp_ne G dX10_step_100 (by omega) (by omega) (fun kq8 => ?_) (fun kq8 => ?_)
          · skip
            refine wp_aload_n G 1 dX10_step_113 rfl ?_
            refine wp_get G 17 cOk9 fX10_54 dX10_step_114 h64 rfl ?_
            refine wp_iload_n G 3 dX10_step_117 rfl ?_
            refine wp_iload_n G 4 dX10_step_118 rfl ?_
            refine wp_iastE (j := bb) (hp2 := (nx, h, [(79, oA 0 8 (fup sp bb v))])) G dX10_step_119 h79 rfl (by omega) (by decide) rfl ?_
            refine wp_iload G 0 dX10_step_120 rfl ?_
            exact wp_ireturn G hr dX10_step_122 (by first | (exfalso; omega) | exact ⟨rfl, Or.inr (⟨bb, rfl, by omega, by omega, rfl, rfl⟩)⟩)
          · skip
            refine wp_aload_n G 1 dX10_step_103 rfl ?_
            refine wp_get G 16 cOk9 fX10_51 dX10_step_104 h64 rfl ?_
            refine wp_iload_n G 3 dX10_step_107 rfl ?_
            refine wp_iload_n G 4 dX10_step_108 rfl ?_
            refine wp_iastE (j := bb) (hp2 := (nx, h, [(78, oA 0 8 (fup fa bb v))])) G dX10_step_109 h78 rfl (by omega) (by decide) rfl ?_
            refine wp_goto G dX10_step_110 ?_
            refine wp_iload G 0 dX10_step_120 rfl ?_
            exact wp_ireturn G hr dX10_step_122 (by first | (exfalso; omega) | exact ⟨rfl, Or.inr (⟨bb, rfl, by omega, by omega, rfl, rfl⟩)⟩)
        · skip
          refine wp_aload_n G 0 dX10_step_67 rfl ?_
          refine wp_get G 16 cOk9 fX10_51 dX10_step_68 h64 rfl ?_
          refine wp_iload_n G 2 dX10_step_71 rfl ?_
          refine wp_iald (j := bb) G dX10_step_72 h78 rfl (by omega) (by decide) ?_
          have rrq2 := hS.2.1 bb (by omega)
          refine wp_goto G dX10_step_73 ?_
          refine wp_istore (lv' := [(4, zI (fa bb)), (0, zR 64), (1, zI 1), (2, zI ((bb : Nat) : Int)), (3, zI v)]) G dX10_step_82 (by decide) rfl ?_
          refine wp_iload_n G 2 dX10_step_84 rfl ?_
          refine wp_if_ne G dX10_step_85 (by omega) (fun _ => ?_) (fun z => by exfalso; omega)
          refine wp_iload_n G 2 dX10_step_98 rfl ?_
          refine wp_iconst G dX10_step_99 ?_
          refine wp_icmp_ne G dX10_step_100 (by omega) (by omega) (fun kq10 => ?_) (fun kq10 => ?_)
          · skip
            refine wp_aload_n G 1 dX10_step_113 rfl ?_
            refine wp_get G 17 cOk9 fX10_54 dX10_step_114 h64 rfl ?_
            refine wp_iload_n G 3 dX10_step_117 rfl ?_
            refine wp_iload_n G 4 dX10_step_118 rfl ?_
            refine wp_iastE (j := bb) (hp2 := (nx, h, [(79, oA 0 8 (fup sp bb v))])) G dX10_step_119 h79 rfl (by omega) (by decide) rfl ?_
            refine wp_iload G 0 dX10_step_120 rfl ?_
            exact wp_ireturn G hr dX10_step_122 (by first | (exfalso; omega) | exact ⟨rfl, Or.inr (⟨bb, rfl, by omega, by omega, rfl, rfl⟩)⟩)
          · skip
            refine wp_aload_n G 1 dX10_step_103 rfl ?_
            refine wp_get G 16 cOk9 fX10_51 dX10_step_104 h64 rfl ?_
            refine wp_iload_n G 3 dX10_step_107 rfl ?_
            refine wp_iload_n G 4 dX10_step_108 rfl ?_
            refine wp_iastE (j := bb) (hp2 := (nx, h, [(78, oA 0 8 (fup fa bb v))])) G dX10_step_109 h78 rfl (by omega) (by decide) rfl ?_
            refine wp_goto G dX10_step_110 ?_
            refine wp_iload G 0 dX10_step_120 rfl ?_
            exact wp_ireturn G hr dX10_step_122 (by first | (exfalso; omega) | exact ⟨rfl, Or.inr (⟨bb, rfl, by omega, by omega, rfl, rfl⟩)⟩)
      · skip
        refine wp_bipush G dX10_step_46 (by decide) ?_
        exact wp_ireturn G hr dX10_step_48 (by first | (exfalso; omega) | exact ⟨rfl, Or.inl (⟨by omega, rfl, rfl⟩)⟩)

set_option maxRecDepth 100000 in
set_option maxHeartbeats 4000000 in
theorem t_X4_stepsOf2 {nx : Nat} {h : Nat → Option PC} {n : Nat} {q : Nat → Nat → Int} {o : Nat → Nat} {pr : Nat → Int} {fa : Nat → Int} {sp : Nat → Int} {fo : Nat → Int} {de : Nat → Int} (hQ : isQ h n q o) (hO : okQ n q o) (hM : isMo h pr fa sp fo de) (hS : okS pr fa sp) : Cx 0 (0, 0) yX4_stepsOf cX4_stepsOf 2 (some (.array .int)) [zR 36, zI 2] nx h (Rt (zR 39) nx []) := by
  refine cx_of pnX4_stepsOf (Nat.le_of_ble_eq_true rfl) ?_
  intro K G hr hnm hR
  obtain ⟨h2, h3, h4, h5, h6, h7, h8, h9, h10⟩ := id hQ
  have hn40 := hO.1
  obtain ⟨h36, h37, h38, h39, h40, h41⟩ := id hM
  show Wp K 2 (Mx K h (Rt (zR 39) nx []) (0, 0)) (0, 0) 0 [(0, zR 36), (1, zI 2)] [] (nx, h, [])
  refine wp_iload_n G 1 dX4_stepsOf_0 rfl ?_
  refine wp_tableIn (off := 37) (tgt := 38) G dX4_stepsOf_1 (by decide) (by decide) (by decide) rfl (by decide) ?_
  refine wp_aload_n G 0 dX4_stepsOf_38 rfl ?_
  refine wp_get G 2 cOk4 fX4_18 dX4_stepsOf_39 h36 rfl ?_
  exact wp_areturn (r := some 39) G hr (Or.inr ⟨_, rfl⟩) dX4_stepsOf_42 ⟨by rfl, rfl, by rfl⟩

set_option maxRecDepth 100000 in
set_option maxHeartbeats 4000000 in
theorem t_X9_step2 {nx : Nat} {h : Nat → Option PC} {n : Nat} {q : Nat → Nat → Int} {o : Nat → Nat} {pr : Nat → Int} {fa : Nat → Int} {sp : Nat → Int} {fo : Nat → Int} {de : Nat → Int} {fc : Nat} {b : Int} {v : Int} (hQ : isQ h n q o) (hO : okQ n q o) (hM : isMo h pr fa sp fo de) (hS : okS pr fa sp) (h0 : h 0 = some (oO 8 [zR 1, zR 2, zR 11, zR 34, zR 36, zR 42, zR 44, zI ((fc : Nat) : Int), zR 45, zR 48])) (ri_b : r32 b) (ri_v : r32 v) : Cx 1 (0, 0) yX9_step cX9_step 6 (some .int) [zR 0, zI 2, zI b, zI v] nx h (fun rr nx' l' => nx' = nx ∧ ((¬ ((0 ≤ b ∧ b ≤ 7) ∧ (0 ≤ v ∧ v ≤ 100)) ∧ rr = some (zI (-2)) ∧ l' = []) ∨ (∃ j : Nat, b = ((j : Nat) : Int) ∧ j < 8 ∧ (0 ≤ v ∧ v ≤ 100) ∧ rr = some (zI (sp j)) ∧ l' = [(39, oA 0 8 (fup sp j v))]))) := by
  refine cx_of pnX9_step (Nat.le_of_ble_eq_true rfl) ?_
  intro K G hr hnm hR
  obtain ⟨h2, h3, h4, h5, h6, h7, h8, h9, h10⟩ := id hQ
  have hn40 := hO.1
  obtain ⟨h36, h37, h38, h39, h40, h41⟩ := id hM
  show Wp K 6 (Mx K h (fun rr nx' l' => nx' = nx ∧ ((¬ ((0 ≤ b ∧ b ≤ 7) ∧ (0 ≤ v ∧ v ≤ 100)) ∧ rr = some (zI (-2)) ∧ l' = []) ∨ (∃ j : Nat, b = ((j : Nat) : Int) ∧ j < 8 ∧ (0 ≤ v ∧ v ≤ 100) ∧ rr = some (zI (sp j)) ∧ l' = [(39, oA 0 8 (fup sp j v))]))) (0, 0)) (0, 0) 0 [(0, zR 0), (1, zI 2), (2, zI b), (3, zI v)] [] (nx, h, [])
  refine wp_aload_n G 0 dX9_step_0 rfl ?_
  refine wp_get G 4 cOk8 fX9_37 dX9_step_1 h0 rfl ?_
  refine wp_iload_n G 1 dX9_step_4 rfl ?_
  refine wp_cVE (b := 36) (ci := 4) (as := [zI 2]) (rest := []) (hp2 := (nx, h, [])) G mX4_stepsOf lX9_198 iX4_stepsOf eX4_stepsOf ⟨_, rfl, rfl⟩ dX9_step_5 h36 rfl rfl (Nat.le_of_ble_eq_true rfl) (rmx_ok hR (by decide) (by decide) (by decide) (by decide)) (t_X4_stepsOf2 (nx := nx)  hQ hO hM hS) rfl ?_
  refine wp_astore (lv' := [(4, zR 39), (0, zR 0), (1, zI 2), (2, zI b), (3, zI v)]) G dX9_step_8 (by decide) rfl ?_
  refine wp_aload G 0 dX9_step_10 rfl ?_
  refine wp_ifnull (r := (some 39)) G dX9_step_12 (fun z => by cases z) (fun _ _ => ?_)
  refine wp_iload_n G 3 dX9_step_15 rfl ?_
  refine wp_iconst G dX9_step_16 ?_
  refine wp_aload G 0 dX9_step_17 rfl ?_
  refine wp_alen G (by decide) dX9_step_19 h39 ?_
  refine wp_iconst G dX9_step_20 ?_
  refine wp_isub G dX9_step_21 ?_
  refine wp_cSE (as := [zI b, zI 0, zI (((8 : Nat) : Int) - 1)]) (rest := []) (hp2 := (nx, h, [])) G mX9_within lX9_127 sX9_within dX9_step_22 rfl rfl (Nat.le_of_ble_eq_true rfl) (rmx_ok hR (by decide) (by decide) (by decide) (by decide)) (t_X9_within (nx := nx) (v := b) (lo := 0) (hi := (((8 : Nat) : Int) - 1)) (by omega) (by omega) (by omega)) rfl ?_
  refine wp_ifeq_bt G dX9_step_25 (fun kq2 => ?_) (fun kq2 => ?_)
  · skip
    refine wp_bipush G dX9_step_38 (by decide) ?_
    exact wp_ireturn G hr dX9_step_40 (by exact ⟨rfl, Or.inl (⟨by omega, rfl, rfl⟩)⟩)
  · skip
    refine wp_iload_n G 4 dX9_step_28 rfl ?_
    refine wp_iconst G dX9_step_29 ?_
    refine wp_bipush G dX9_step_30 (by decide) ?_
    refine wp_cSE (as := [zI v, zI 0, zI 100]) (rest := []) (hp2 := (nx, h, [])) G mX9_within lX9_127 sX9_within dX9_step_32 rfl rfl (Nat.le_of_ble_eq_true rfl) (rmx_ok hR (by decide) (by decide) (by decide) (by decide)) (t_X9_within (nx := nx) (v := v) (lo := 0) (hi := 100) ri_v (by omega) (by omega)) rfl ?_
    refine wp_ifne_bt G dX9_step_35 (fun kq3 => ?_) (fun kq3 => ?_)
    · skip
      obtain ⟨bb, e_bb⟩ := Int.eq_ofNat_of_zero_le (show 0 ≤ b from (by omega))
      subst e_bb
      refine wp_aload G 0 dX9_step_41 rfl ?_
      refine wp_iload_n G 3 dX9_step_43 rfl ?_
      refine wp_iald (j := bb) G dX9_step_44 h39 rfl (by omega) (by decide) ?_
      have rrq1 := hS.2.2 bb (by omega)
      refine wp_istore (lv' := [(5, zI (sp bb)), (4, zR 39), (0, zR 0), (1, zI 2), (2, zI ((bb : Nat) : Int)), (3, zI v)]) G dX9_step_45 (by decide) rfl ?_
      refine wp_aload G 1 dX9_step_47 rfl ?_
      refine wp_iload_n G 4 dX9_step_49 rfl ?_
      refine wp_iload_n G 5 dX9_step_50 rfl ?_
      refine wp_iastE (j := bb) (hp2 := (nx, h, [(39, oA 0 8 (fup sp bb v))])) G dX9_step_51 h39 rfl (by omega) (by decide) rfl ?_
      refine wp_iload G 0 dX9_step_52 rfl ?_
      exact wp_ireturn G hr dX9_step_54 (by exact ⟨rfl, Or.inr (⟨bb, rfl, by omega, by omega, rfl, rfl⟩)⟩)
    · skip
      refine wp_bipush G dX9_step_38 (by decide) ?_
      exact wp_ireturn G hr dX9_step_40 (by exact ⟨rfl, Or.inl (⟨by omega, rfl, rfl⟩)⟩)

set_option maxRecDepth 100000 in
set_option maxHeartbeats 4000000 in
theorem t_X10_step2 {nx : Nat} {h : Nat → Option PC} {n : Nat} {q : Nat → Nat → Int} {o : Nat → Nat} {fc : Nat} {hn : Nat} {ln : Nat} {ma : Int} {mb : Int} {st : Nat → Int} {pr : Nat → Int} {fa : Nat → Int} {sp : Nat → Int} {b : Int} {v : Int} (hQ : isM h n q o fc hn ln ma mb st) (hO : okQ n q o) (hN : okN st) (hMs : isMs h pr fa sp) (hS : okS pr fa sp) (ri_b : r32 b) (ri_v : r32 v) : Cx 1 (0, 0) yX10_step cX10_step 5 (some .int) [zR 64, zI 2, zI b, zI v] nx h (fun rr nx' l' => nx' = nx ∧ ((¬ ((0 ≤ b ∧ b ≤ 7) ∧ (0 ≤ v ∧ v ≤ 100)) ∧ rr = some (zI (-2)) ∧ l' = []) ∨ (∃ j : Nat, b = ((j : Nat) : Int) ∧ j < 8 ∧ (0 ≤ v ∧ v ≤ 100) ∧ rr = some (zI (sp j)) ∧ l' = [(79, oA 0 8 (fup sp j v))]))) := by
  refine cx_of pnX10_step (Nat.le_of_ble_eq_true rfl) ?_
  intro K G hr hnm hR
  obtain ⟨h64, h65, h66, h67, h68, h69, h70, h71, h72, h73⟩ := id hQ
  have hn40 := hO.1
  obtain ⟨hN0, hN1, hN2, hN3, hN4⟩ := id hN
  obtain ⟨h77, h78, h79⟩ := id hMs
  show Wp K 5 (Mx K h (fun rr nx' l' => nx' = nx ∧ ((¬ ((0 ≤ b ∧ b ≤ 7) ∧ (0 ≤ v ∧ v ≤ 100)) ∧ rr = some (zI (-2)) ∧ l' = []) ∨ (∃ j : Nat, b = ((j : Nat) : Int) ∧ j < 8 ∧ (0 ≤ v ∧ v ≤ 100) ∧ rr = some (zI (sp j)) ∧ l' = [(79, oA 0 8 (fup sp j v))]))) (0, 0)) (0, 0) 0 [(0, zR 64), (1, zI 2), (2, zI b), (3, zI v)] [] (nx, h, [])
  refine wp_iload_n G 1 dX10_step_0 rfl ?_
  refine wp_i2l G (by omega) dX10_step_1 ?_
  refine wp_lconst (z := 0) G dX10_step_2 (by decide) ?_
  refine wp_ldc2 (z := 2) G kX10_110 dX10_step_3 ?_
  refine wp_cSE (as := [zJ 2, zJ 0, zJ 2]) (rest := []) (hp2 := (nx, h, [])) G mX10_in lX10_100 sX10_in dX10_step_6 rfl rfl (Nat.le_of_ble_eq_true rfl) (rmx_ok hR (by decide) (by decide) (by decide) (by decide)) (t_X10_in (nx := nx) (v := 2) (lo := 0) (hi := 2) (by omega) (by omega) (by omega)) rfl ?_
  refine wp_ifeq_bt G dX10_step_9 (fun kq1 => ?_) (fun kq1 => ?_)
  · skip
    refine wp_bipush G dX10_step_46 (by decide) ?_
    exact wp_ireturn G hr dX10_step_48 (by first | (exfalso; omega) | exact ⟨rfl, Or.inl (⟨by omega, rfl, rfl⟩)⟩)
  · skip
    refine wp_iload_n G 2 dX10_step_12 rfl ?_
    refine wp_i2l G (by omega) dX10_step_13 ?_
    refine wp_lconst (z := 0) G dX10_step_14 (by decide) ?_
    refine wp_iload_n G 1 dX10_step_15 rfl ?_
    refine wp_if_ne G dX10_step_16 (by omega) (fun _ => ?_) (fun z => by exfalso; omega)
    refine wp_ldc2 (z := 7) G kX10_206 dX10_step_25 ?_
    refine wp_cSE (as := [zJ b, zJ 0, zJ 7]) (rest := []) (hp2 := (nx, h, [])) G mX10_in lX10_100 sX10_in dX10_step_28 rfl rfl (Nat.le_of_ble_eq_true rfl) (rmx_ok hR (by decide) (by decide) (by decide) (by decide)) (t_X10_in (nx := nx) (v := b) (lo := 0) (hi := 7) (by omega) (by omega) (by omega)) rfl ?_
    refine wp_ifeq_bt G dX10_step_31 (fun kq3 => ?_) (fun kq3 => ?_)
    · skip
      refine wp_bipush G dX10_step_46 (by decide) ?_
      exact wp_ireturn G hr dX10_step_48 (by first | (exfalso; omega) | exact ⟨rfl, Or.inl (⟨by omega, rfl, rfl⟩)⟩)
    · skip
      refine wp_iload_n G 3 dX10_step_34 rfl ?_
      refine wp_i2l G (by omega) dX10_step_35 ?_
      refine wp_lconst (z := 0) G dX10_step_36 (by decide) ?_
      refine wp_ldc2 (z := 100) G kX10_198 dX10_step_37 ?_
      refine wp_cSE (as := [zJ v, zJ 0, zJ 100]) (rest := []) (hp2 := (nx, h, [])) G mX10_in lX10_100 sX10_in dX10_step_40 rfl rfl (Nat.le_of_ble_eq_true rfl) (rmx_ok hR (by decide) (by decide) (by decide) (by decide)) (t_X10_in (nx := nx) (v := v) (lo := 0) (hi := 100) (by omega) (by omega) (by omega)) rfl ?_
      refine wp_ifne_bt G dX10_step_43 (fun kq4 => ?_) (fun kq4 => ?_)
      · skip
        obtain ⟨bb, e_bb⟩ := Int.eq_ofNat_of_zero_le (show 0 ≤ b from (by omega))
        subst e_bb
        refine wp_iload_n G 1 dX10_step_49 rfl ?_
        refine wp_if_ne G dX10_step_50 (by omega) (fun _ => ?_) (fun z => by exfalso; omega)
        refine wp_iload_n G 1 dX10_step_62 rfl ?_
        refine wp_iconst G dX10_step_63 ?_
        refine wp_icmp_ne G dX10_step_64 (by omega) (by omega) (fun kq6 => ?_) (fun kq6 => ?_)
        · skip
          refine wp_aload_n G 0 dX10_step_76 rfl ?_
          refine wp_get G 17 cOk9 fX10_54 dX10_step_77 h64 rfl ?_
          refine wp_iload_n G 2 dX10_step_80 rfl ?_
          refine wp_iald (j := bb) G dX10_step_81 h79 rfl (by omega) (by decide) ?_
          have rrq1 := hS.2.2 bb (by omega)
          refine wp_istore (lv' := [(4, zI (sp bb)), (0, zR 64), (1, zI 2), (2, zI ((bb : Nat) : Int)), (3, zI v)]) G dX10_step_82 (by decide) rfl ?_
          refine wp_iload_n G 2 dX10_step_84 rfl ?_
          refine wp_if_ne G dX10_step_85 (by omega) (fun _ => ?_) (fun z => by exfalso; omega)
          refine wp_iload_n G 2 dX10_step_98 rfl ?_
          refine wp_iconst G dX10_step_99 ?_
          refine wp_icmp_ne G dX10_step_100 (by omega) (by omega) (fun kq8 => ?_) (fun kq8 => ?_)
          · skip
            refine wp_aload_n G 1 dX10_step_113 rfl ?_
            refine wp_get G 17 cOk9 fX10_54 dX10_step_114 h64 rfl ?_
            refine wp_iload_n G 3 dX10_step_117 rfl ?_
            refine wp_iload_n G 4 dX10_step_118 rfl ?_
            refine wp_iastE (j := bb) (hp2 := (nx, h, [(79, oA 0 8 (fup sp bb v))])) G dX10_step_119 h79 rfl (by omega) (by decide) rfl ?_
            refine wp_iload G 0 dX10_step_120 rfl ?_
            exact wp_ireturn G hr dX10_step_122 (by first | (exfalso; omega) | exact ⟨rfl, Or.inr (⟨bb, rfl, by omega, by omega, rfl, rfl⟩)⟩)
          · skip
            refine wp_aload_n G 1 dX10_step_103 rfl ?_
            refine wp_get G 16 cOk9 fX10_51 dX10_step_104 h64 rfl ?_
            refine wp_iload_n G 3 dX10_step_107 rfl ?_
            refine wp_iload_n G 4 dX10_step_108 rfl ?_
            refine wp_iastE (j := bb) (hp2 := (nx, h, [(78, oA 0 8 (fup fa bb v))])) G dX10_step_109 h78 rfl (by omega) (by decide) rfl ?_
            refine wp_goto G dX10_step_110 ?_
            refine wp_iload G 0 dX10_step_120 rfl ?_
            exact wp_ireturn G hr dX10_step_122 (by first | (exfalso; omega) | exact ⟨rfl, Or.inr (⟨bb, rfl, by omega, by omega, rfl, rfl⟩)⟩)
        · skip
          refine wp_aload_n G 0 dX10_step_67 rfl ?_
          refine wp_get G 16 cOk9 fX10_51 dX10_step_68 h64 rfl ?_
          refine wp_iload_n G 2 dX10_step_71 rfl ?_
          refine wp_iald (j := bb) G dX10_step_72 h78 rfl (by omega) (by decide) ?_
          have rrq2 := hS.2.1 bb (by omega)
          refine wp_goto G dX10_step_73 ?_
          refine wp_istore (lv' := [(4, zI (fa bb)), (0, zR 64), (1, zI 2), (2, zI ((bb : Nat) : Int)), (3, zI v)]) G dX10_step_82 (by decide) rfl ?_
          refine wp_iload_n G 2 dX10_step_84 rfl ?_
          refine wp_if_ne G dX10_step_85 (by omega) (fun _ => ?_) (fun z => by exfalso; omega)
          refine wp_iload_n G 2 dX10_step_98 rfl ?_
          refine wp_iconst G dX10_step_99 ?_
          refine wp_icmp_ne G dX10_step_100 (by omega) (by omega) (fun kq10 => ?_) (fun kq10 => ?_)
          · skip
            refine wp_aload_n G 1 dX10_step_113 rfl ?_
            refine wp_get G 17 cOk9 fX10_54 dX10_step_114 h64 rfl ?_
            refine wp_iload_n G 3 dX10_step_117 rfl ?_
            refine wp_iload_n G 4 dX10_step_118 rfl ?_
            refine wp_iastE (j := bb) (hp2 := (nx, h, [(79, oA 0 8 (fup sp bb v))])) G dX10_step_119 h79 rfl (by omega) (by decide) rfl ?_
            refine wp_iload G 0 dX10_step_120 rfl ?_
            exact wp_ireturn G hr dX10_step_122 (by first | (exfalso; omega) | exact ⟨rfl, Or.inr (⟨bb, rfl, by omega, by omega, rfl, rfl⟩)⟩)
          · skip
            refine wp_aload_n G 1 dX10_step_103 rfl ?_
            refine wp_get G 16 cOk9 fX10_51 dX10_step_104 h64 rfl ?_
            refine wp_iload_n G 3 dX10_step_107 rfl ?_
            refine wp_iload_n G 4 dX10_step_108 rfl ?_
            refine wp_iastE (j := bb) (hp2 := (nx, h, [(78, oA 0 8 (fup fa bb v))])) G dX10_step_109 h78 rfl (by omega) (by decide) rfl ?_
            refine wp_goto G dX10_step_110 ?_
            refine wp_iload G 0 dX10_step_120 rfl ?_
            exact wp_ireturn G hr dX10_step_122 (by first | (exfalso; omega) | exact ⟨rfl, Or.inr (⟨bb, rfl, by omega, by omega, rfl, rfl⟩)⟩)
      · skip
        refine wp_bipush G dX10_step_46 (by decide) ?_
        exact wp_ireturn G hr dX10_step_48 (by first | (exfalso; omega) | exact ⟨rfl, Or.inl (⟨by omega, rfl, rfl⟩)⟩)

set_option maxRecDepth 100000 in
set_option maxHeartbeats 4000000 in
theorem t_X4_stepsOf3 {nx : Nat} {h : Nat → Option PC} {n : Nat} {q : Nat → Nat → Int} {o : Nat → Nat} {pr : Nat → Int} {fa : Nat → Int} {sp : Nat → Int} {fo : Nat → Int} {de : Nat → Int} {a : Int} (hQ : isQ h n q o) (hO : okQ n q o) (hM : isMo h pr fa sp fo de) (hS : okS pr fa sp) (ri_a : r32 a) (ha : a < 0 ∨ 2 < a) : Cx 0 (0, 0) yX4_stepsOf cX4_stepsOf 2 (some (.array .int)) [zR 36, zI a] nx h (Rt (zN) nx []) := by
  refine cx_of pnX4_stepsOf (Nat.le_of_ble_eq_true rfl) ?_
  intro K G hr hnm hR
  obtain ⟨h2, h3, h4, h5, h6, h7, h8, h9, h10⟩ := id hQ
  have hn40 := hO.1
  obtain ⟨h36, h37, h38, h39, h40, h41⟩ := id hM
  show Wp K 2 (Mx K h (Rt (zN) nx []) (0, 0)) (0, 0) 0 [(0, zR 36), (1, zI a)] [] (nx, h, [])
  refine wp_iload_n G 1 dX4_stepsOf_0 rfl ?_
  have sq1 : a = 0 ∨ a = 1 ∨ a = 2 ∨ (a < 0 ∨ 2 < a) := by omega
  rcases sq1 with rfl | rfl | rfl | sq1
  · refine wp_tableIn (off := 27) (tgt := 28) G dX4_stepsOf_1 (by omega) (by omega) (by omega) rfl (by decide) ?_
    refine wp_aload_n G 0 dX4_stepsOf_28 rfl ?_
    refine wp_get G 0 cOk4 fX4_9 dX4_stepsOf_29 h36 rfl ?_
    exact wp_areturn (r := some 37) G hr (Or.inr ⟨_, rfl⟩) dX4_stepsOf_32 ⟨by exfalso; omega, rfl, by rfl⟩
  · refine wp_tableIn (off := 32) (tgt := 33) G dX4_stepsOf_1 (by omega) (by omega) (by omega) rfl (by decide) ?_
    refine wp_aload_n G 0 dX4_stepsOf_33 rfl ?_
    refine wp_get G 1 cOk4 fX4_15 dX4_stepsOf_34 h36 rfl ?_
    exact wp_areturn (r := some 38) G hr (Or.inr ⟨_, rfl⟩) dX4_stepsOf_37 ⟨by exfalso; omega, rfl, by rfl⟩
  · refine wp_tableIn (off := 37) (tgt := 38) G dX4_stepsOf_1 (by omega) (by omega) (by omega) rfl (by decide) ?_
    refine wp_aload_n G 0 dX4_stepsOf_38 rfl ?_
    refine wp_get G 2 cOk4 fX4_18 dX4_stepsOf_39 h36 rfl ?_
    exact wp_areturn (r := some 39) G hr (Or.inr ⟨_, rfl⟩) dX4_stepsOf_42 ⟨by exfalso; omega, rfl, by rfl⟩
  · refine wp_tableOut (tgt := 43) G dX4_stepsOf_1 (by omega) sq1 (by decide) ?_
    refine wp_null G dX4_stepsOf_43 ?_
    exact wp_areturn (r := none) G hr (Or.inr ⟨_, rfl⟩) dX4_stepsOf_44 ⟨by rfl, rfl, by rfl⟩

set_option maxRecDepth 100000 in
set_option maxHeartbeats 4000000 in
theorem t_X9_step3 {nx : Nat} {h : Nat → Option PC} {n : Nat} {q : Nat → Nat → Int} {o : Nat → Nat} {pr : Nat → Int} {fa : Nat → Int} {sp : Nat → Int} {fo : Nat → Int} {de : Nat → Int} {fc : Nat} {a : Int} {b : Int} {v : Int} (hQ : isQ h n q o) (hO : okQ n q o) (hM : isMo h pr fa sp fo de) (hS : okS pr fa sp) (h0 : h 0 = some (oO 8 [zR 1, zR 2, zR 11, zR 34, zR 36, zR 42, zR 44, zI ((fc : Nat) : Int), zR 45, zR 48])) (ri_a : r32 a) (ri_b : r32 b) (ri_v : r32 v) (ha : a < 0 ∨ 2 < a) : Cx 1 (0, 0) yX9_step cX9_step 6 (some .int) [zR 0, zI a, zI b, zI v] nx h (Rt (zI (-2)) nx []) := by
  refine cx_of pnX9_step (Nat.le_of_ble_eq_true rfl) ?_
  intro K G hr hnm hR
  obtain ⟨h2, h3, h4, h5, h6, h7, h8, h9, h10⟩ := id hQ
  have hn40 := hO.1
  obtain ⟨h36, h37, h38, h39, h40, h41⟩ := id hM
  show Wp K 6 (Mx K h (Rt (zI (-2)) nx []) (0, 0)) (0, 0) 0 [(0, zR 0), (1, zI a), (2, zI b), (3, zI v)] [] (nx, h, [])
  refine wp_aload_n G 0 dX9_step_0 rfl ?_
  refine wp_get G 4 cOk8 fX9_37 dX9_step_1 h0 rfl ?_
  refine wp_iload_n G 1 dX9_step_4 rfl ?_
  refine wp_cVE (b := 36) (ci := 4) (as := [zI a]) (rest := []) (hp2 := (nx, h, [])) G mX4_stepsOf lX9_198 iX4_stepsOf eX4_stepsOf ⟨_, rfl, rfl⟩ dX9_step_5 h36 rfl rfl (Nat.le_of_ble_eq_true rfl) (rmx_ok hR (by decide) (by decide) (by decide) (by decide)) (t_X4_stepsOf3 (nx := nx) (a := a) hQ hO hM hS ri_a ha) rfl ?_
  refine wp_astoreN (lv' := [(4, zN), (0, zR 0), (1, zI a), (2, zI b), (3, zI v)]) G dX9_step_8 (by decide) rfl ?_
  refine wp_aloadN G 0 dX9_step_10 rfl ?_
  refine wp_ifnull (r := none) G dX9_step_12 (fun _ => ?_) (fun _ z => by cases z)
  refine wp_bipush G dX9_step_38 (by decide) ?_
  exact wp_ireturn G hr dX9_step_40 ⟨by rfl, rfl, by rfl⟩

set_option maxRecDepth 100000 in
set_option maxHeartbeats 4000000 in
theorem t_X10_step3 {nx : Nat} {h : Nat → Option PC} {n : Nat} {q : Nat → Nat → Int} {o : Nat → Nat} {fc : Nat} {hn : Nat} {ln : Nat} {ma : Int} {mb : Int} {st : Nat → Int} {pr : Nat → Int} {fa : Nat → Int} {sp : Nat → Int} {a : Int} {b : Int} {v : Int} (hQ : isM h n q o fc hn ln ma mb st) (hO : okQ n q o) (hN : okN st) (hMs : isMs h pr fa sp) (hS : okS pr fa sp) (ri_a : r32 a) (ri_b : r32 b) (ri_v : r32 v) (ha : a < 0 ∨ 2 < a) : Cx 1 (0, 0) yX10_step cX10_step 5 (some .int) [zR 64, zI a, zI b, zI v] nx h (Rt (zI (-2)) nx []) := by
  refine cx_of pnX10_step (Nat.le_of_ble_eq_true rfl) ?_
  intro K G hr hnm hR
  obtain ⟨h64, h65, h66, h67, h68, h69, h70, h71, h72, h73⟩ := id hQ
  have hn40 := hO.1
  obtain ⟨hN0, hN1, hN2, hN3, hN4⟩ := id hN
  obtain ⟨h77, h78, h79⟩ := id hMs
  show Wp K 5 (Mx K h (Rt (zI (-2)) nx []) (0, 0)) (0, 0) 0 [(0, zR 64), (1, zI a), (2, zI b), (3, zI v)] [] (nx, h, [])
  refine wp_iload_n G 1 dX10_step_0 rfl ?_
  refine wp_i2l G (by omega) dX10_step_1 ?_
  refine wp_lconst (z := 0) G dX10_step_2 (by decide) ?_
  refine wp_ldc2 (z := 2) G kX10_110 dX10_step_3 ?_
  refine wp_cSE (as := [zJ a, zJ 0, zJ 2]) (rest := []) (hp2 := (nx, h, [])) G mX10_in lX10_100 sX10_in dX10_step_6 rfl rfl (Nat.le_of_ble_eq_true rfl) (rmx_ok hR (by decide) (by decide) (by decide) (by decide)) (t_X10_in (nx := nx) (v := a) (lo := 0) (hi := 2) (by omega) (by omega) (by omega)) rfl ?_
  refine wp_ifeq_bt G dX10_step_9 (fun kq1 => ?_) (fun kq1 => ?_)
  · skip
    refine wp_bipush G dX10_step_46 (by decide) ?_
    exact wp_ireturn G hr dX10_step_48 ⟨by rfl, rfl, by rfl⟩
  · skip
    exfalso; omega

set_option maxRecDepth 100000 in
set_option maxHeartbeats 4000000 in
theorem t_X9_say {nx : Nat} {h : Nat → Option PC} {sc : Nat} {sg : Nat → Int} {fc : Nat} {v : Int} (h42 : h 42 = some (oO 7 [zI ((sc : Nat) : Int), zR 43])) (h43 : h 43 = some (oA 0 48 sg)) (hsc : sc ≤ 48) (hsg : ∀ i, i < sc → 33 ≤ sg i ∧ sg i ≤ 126) (h0 : h 0 = some (oO 8 [zR 1, zR 2, zR 11, zR 34, zR 36, zR 42, zR 44, zI ((fc : Nat) : Int), zR 45, zR 48])) (ri_v : r32 v) : Cx 1 (0, 0) yX9_say cX9_say 2 (some .int) [zR 0, zI v] nx h (fun rr nx' l' => nx' = nx ∧ ((¬ (33 ≤ v ∧ v ≤ 126) ∧ rr = some (zI (-2)) ∧ l' = []) ∨ ((33 ≤ v ∧ v ≤ 126) ∧ sc = 48 ∧ rr = some (zI (-4)) ∧ l' = []) ∨ ((33 ≤ v ∧ v ≤ 126) ∧ sc < 48 ∧ rr = some (zI (((sc : Nat) : Int) + 1)) ∧ l' = [(42, oO 7 [zI (((sc : Nat) : Int) + 1), zR 43]), (43, oA 0 48 (fup sg sc v))]))) := by
  refine cx_of pnX9_say (Nat.le_of_ble_eq_true rfl) ?_
  intro K G hr hnm hR
  show Wp K 2 (Mx K h (fun rr nx' l' => nx' = nx ∧ ((¬ (33 ≤ v ∧ v ≤ 126) ∧ rr = some (zI (-2)) ∧ l' = []) ∨ ((33 ≤ v ∧ v ≤ 126) ∧ sc = 48 ∧ rr = some (zI (-4)) ∧ l' = []) ∨ ((33 ≤ v ∧ v ≤ 126) ∧ sc < 48 ∧ rr = some (zI (((sc : Nat) : Int) + 1)) ∧ l' = [(42, oO 7 [zI (((sc : Nat) : Int) + 1), zR 43]), (43, oA 0 48 (fup sg sc v))]))) (0, 0)) (0, 0) 0 [(0, zR 0), (1, zI v)] [] (nx, h, [])
  refine wp_iload_n G 1 dX9_say_0 rfl ?_
  refine wp_bipush G dX9_say_1 (by decide) ?_
  refine wp_bipush G dX9_say_3 (by decide) ?_
  refine wp_cSE (as := [zI v, zI 33, zI 126]) (rest := []) (hp2 := (nx, h, [])) G mX9_within lX9_127 sX9_within dX9_say_5 rfl rfl (Nat.le_of_ble_eq_true rfl) (rmx_ok hR (by decide) (by decide) (by decide) (by decide)) (t_X9_within (nx := nx) (v := v) (lo := 33) (hi := 126) ri_v (by omega) (by omega)) rfl ?_
  refine wp_ifne_bt G dX9_say_8 (fun kq1 => ?_) (fun kq1 => ?_)
  · skip
    refine wp_aload_n G 0 dX9_say_14 rfl ?_
    refine wp_get G 5 cOk8 fX9_44 dX9_say_15 h0 rfl ?_
    refine wp_cVE (b := 42) (ci := 7) (as := []) (rest := []) (hp2 := (nx, h, [])) G mX8_isFull lX9_250 iX8_isFull eX8_isFull ⟨_, rfl, rfl⟩ dX9_say_18 h42 rfl rfl (Nat.le_of_ble_eq_true rfl) (rmx_ok hR (by decide) (by decide) (by decide) (by decide)) (t_X8_isFull (nx := nx)  h42 h43 hsc hsg) rfl ?_
    refine wp_ifeq_bt G dX9_say_21 (fun kq2 => ?_) (fun kq2 => ?_)
    · skip
      refine wp_aload_n G 0 dX9_say_27 rfl ?_
      refine wp_get G 5 cOk8 fX9_44 dX9_say_28 h0 rfl ?_
      refine wp_iload_n G 1 dX9_say_31 rfl ?_
      refine wp_cVE (b := 42) (ci := 7) (as := [zI v]) (rest := []) (hp2 := (nx, h, [(42, oO 7 [zI (((sc : Nat) : Int) + 1), zR 43]), (43, oA 0 48 (fup sg sc v))])) G mX8_add lX9_251 iX8_add eX8_add ⟨_, rfl, rfl⟩ dX9_say_32 h42 rfl rfl (Nat.le_of_ble_eq_true rfl) (rmx_ok hR (by decide) (by decide) (by decide) (by decide)) (t_X8_add (nx := nx) (c := v) h42 h43 hsc hsg (by omega)) rfl ?_
      exact wp_ireturn G hr dX9_say_35 (by exact ⟨rfl, Or.inr (Or.inr (⟨by omega, by omega, rfl, rfl⟩))⟩)
    · skip
      refine wp_bipush G dX9_say_24 (by decide) ?_
      exact wp_ireturn G hr dX9_say_26 (by exact ⟨rfl, Or.inr (Or.inl (⟨by omega, by omega, rfl, rfl⟩))⟩)
  · skip
    refine wp_bipush G dX9_say_11 (by decide) ?_
    exact wp_ireturn G hr dX9_say_13 (by exact ⟨rfl, Or.inl (⟨by omega, rfl, rfl⟩)⟩)

set_option maxRecDepth 100000 in
set_option maxHeartbeats 4000000 in
theorem t_X9_wipe {nx : Nat} {h : Nat → Option PC} {sc : Nat} {sg : Nat → Int} {fc : Nat} (h42 : h 42 = some (oO 7 [zI ((sc : Nat) : Int), zR 43])) (h43 : h 43 = some (oA 0 48 sg)) (hsc : sc ≤ 48) (hsg : ∀ i, i < sc → 33 ≤ sg i ∧ sg i ≤ 126) (h0 : h 0 = some (oO 8 [zR 1, zR 2, zR 11, zR 34, zR 36, zR 42, zR 44, zI ((fc : Nat) : Int), zR 45, zR 48])) : Cx 0 (0, 0) yX9_wipe cX9_wipe 2 (some .int) [zR 0] nx h (Rt (zI ((sc : Nat) : Int)) nx [(42, oO 7 [zI 0, zR 43])]) := by
  refine cx_of pnX9_wipe (Nat.le_of_ble_eq_true rfl) ?_
  intro K G hr hnm hR
  show Wp K 2 (Mx K h (Rt (zI ((sc : Nat) : Int)) nx [(42, oO 7 [zI 0, zR 43])]) (0, 0)) (0, 0) 0 [(0, zR 0)] [] (nx, h, [])
  refine wp_aload_n G 0 dX9_wipe_0 rfl ?_
  refine wp_get G 5 cOk8 fX9_44 dX9_wipe_1 h0 rfl ?_
  refine wp_get G 0 cOk7 fX9_253 dX9_wipe_4 h42 rfl ?_
  refine wp_istore_n (lv' := [(1, zI ((sc : Nat) : Int)), (0, zR 0)]) G dX9_wipe_7 (by decide) rfl ?_
  refine wp_aload_n G 1 dX9_wipe_8 rfl ?_
  refine wp_get G 5 cOk8 fX9_44 dX9_wipe_9 h0 rfl ?_
  refine wp_iconst G dX9_wipe_12 ?_
  refine wp_putE (hp2 := (nx, h, [(42, oO 7 [zI 0, zR 43])])) G 0 cOk7 fX9_253 dX9_wipe_13 h42 (Nat.le_of_ble_eq_true rfl) (fit_int _) (fun _ e => by cases e; rfl) rfl ?_
  refine wp_iload_n G 0 dX9_wipe_16 rfl ?_
  exact wp_ireturn G hr dX9_wipe_17 ⟨by rfl, rfl, by rfl⟩

set_option maxRecDepth 100000 in
set_option maxHeartbeats 4000000 in
theorem t_X9_fault {nx : Nat} {h : Nat → Option PC} {sc : Nat} {sg : Nat → Int} {fc : Nat} (h42 : h 42 = some (oO 7 [zI ((sc : Nat) : Int), zR 43])) (h43 : h 43 = some (oA 0 48 sg)) (hsc : sc ≤ 48) (hsg : ∀ i, i < sc → 33 ≤ sg i ∧ sg i ≤ 126) (h0 : h 0 = some (oO 8 [zR 1, zR 2, zR 11, zR 34, zR 36, zR 42, zR 44, zI ((fc : Nat) : Int), zR 45, zR 48])) : Cx 2 (0, 0) yX9_fault cX9_fault 1 (some .int) [zR 0] nx h (Rt (zI (fltZ sg sc)) nx []) := by
  refine cx_of pnX9_fault (Nat.le_of_ble_eq_true rfl) ?_
  intro K G hr hnm hR
  show Wp K 1 (Mx K h (Rt (zI (fltZ sg sc)) nx []) (0, 0)) (0, 0) 0 [(0, zR 0)] [] (nx, h, [])
  refine wp_aload_n G 0 dX9_fault_0 rfl ?_
  refine wp_get G 5 cOk8 fX9_44 dX9_fault_1 h0 rfl ?_
  refine wp_cVE (b := 42) (ci := 7) (as := []) (rest := []) (hp2 := (nx, h, [])) G mX8_faultyPlace lX9_256 iX8_faultyPlace eX8_faultyPlace ⟨_, rfl, rfl⟩ dX9_fault_4 h42 rfl rfl (Nat.le_of_ble_eq_true rfl) (rmx_ok hR (by decide) (by decide) (by decide) (by decide)) (t_X8_faultyPlace (nx := nx)  h42 h43 hsc hsg) rfl ?_
  exact wp_ireturn G hr dX9_fault_7 ⟨by rfl, rfl, by rfl⟩

set_option maxRecDepth 100000 in
set_option maxHeartbeats 4000000 in
theorem t_X10_say {nx : Nat} {h : Nat → Option PC} {n : Nat} {q : Nat → Nat → Int} {o : Nat → Nat} {fc : Nat} {hn : Nat} {ln : Nat} {ma : Int} {mb : Int} {st : Nat → Int} {sm : Nat → Int} {sl : Nat → Nat} {ri : Nat → Int} {v : Int} (hQ : isM h n q o fc hn ln ma mb st) (hO : okQ n q o) (hN : okN st) (hT : isMt h sm sl ri) (hsl : ∀ f, f < 7 → sl f ≤ 48) (ri_v : r32 v) : Cx 1 (0, 0) yX10_say cX10_say 2 (some .int) [zR 64, zI v] nx h (fun rr nx' l' => nx' = nx ∧ ((¬ (33 ≤ v ∧ v ≤ 126) ∧ rr = some (zI (-2)) ∧ l' = []) ∨ ((33 ≤ v ∧ v ≤ 126) ∧ sl 6 = 48 ∧ rr = some (zI (-4)) ∧ l' = []) ∨ ((33 ≤ v ∧ v ≤ 126) ∧ sl 6 < 48 ∧ rr = some (zI (((sl 6 : Nat) : Int) + 1)) ∧ l' = [(80, oA 0 336 (fup sm (288 + sl 6) v)), (81, oA 0 7 (fup (fun f => ((sl f : Nat) : Int)) 6 (((sl 6 : Nat) : Int) + 1)))]))) := by
  refine cx_of pnX10_say (Nat.le_of_ble_eq_true rfl) ?_
  intro K G hr hnm hR
  obtain ⟨h64, h65, h66, h67, h68, h69, h70, h71, h72, h73⟩ := id hQ
  have hn40 := hO.1
  obtain ⟨hN0, hN1, hN2, hN3, hN4⟩ := id hN
  obtain ⟨h80, h81, h82⟩ := id hT
  have hsl6 := hsl 6 (by decide)
  show Wp K 2 (Mx K h (fun rr nx' l' => nx' = nx ∧ ((¬ (33 ≤ v ∧ v ≤ 126) ∧ rr = some (zI (-2)) ∧ l' = []) ∨ ((33 ≤ v ∧ v ≤ 126) ∧ sl 6 = 48 ∧ rr = some (zI (-4)) ∧ l' = []) ∨ ((33 ≤ v ∧ v ≤ 126) ∧ sl 6 < 48 ∧ rr = some (zI (((sl 6 : Nat) : Int) + 1)) ∧ l' = [(80, oA 0 336 (fup sm (288 + sl 6) v)), (81, oA 0 7 (fup (fun f => ((sl f : Nat) : Int)) 6 (((sl 6 : Nat) : Int) + 1)))]))) (0, 0)) (0, 0) 0 [(0, zR 64), (1, zI v)] [] (nx, h, [])
  refine wp_iload_n G 1 dX10_say_0 rfl ?_
  refine wp_i2l G (by omega) dX10_say_1 ?_
  refine wp_ldc2 (z := 33) G kX10_250 dX10_say_2 ?_
  refine wp_ldc2 (z := 126) G kX10_252 dX10_say_5 ?_
  refine wp_cSE (as := [zJ v, zJ 33, zJ 126]) (rest := []) (hp2 := (nx, h, [])) G mX10_in lX10_100 sX10_in dX10_say_8 rfl rfl (Nat.le_of_ble_eq_true rfl) (rmx_ok hR (by decide) (by decide) (by decide) (by decide)) (t_X10_in (nx := nx) (v := v) (lo := 33) (hi := 126) (by omega) (by omega) (by omega)) rfl ?_
  refine wp_ifne_bt G dX10_say_11 (fun kq1 => ?_) (fun kq1 => ?_)
  · skip
    refine wp_aload_n G 0 dX10_say_17 rfl ?_
    refine wp_get G 19 cOk9 fX10_60 dX10_say_18 h64 rfl ?_
    refine wp_bipush G dX10_say_21 (by decide) ?_
    refine wp_iald (j := 6) G dX10_say_23 h81 rfl (by decide) (by decide) ?_
    refine wp_bipush G dX10_say_24 (by decide) ?_
    refine wp_icmp_ne G dX10_say_26 (by omega) (by omega) (fun kq2 => ?_) (fun kq2 => ?_)
    · skip
      refine wp_aload_n G 0 dX10_say_32 rfl ?_
      refine wp_get G 18 cOk9 fX10_57 dX10_say_33 h64 rfl ?_
      refine wp_sipush G dX10_say_36 (by decide) ?_
      refine wp_aload_n G 0 dX10_say_39 rfl ?_
      refine wp_get G 19 cOk9 fX10_60 dX10_say_40 h64 rfl ?_
      refine wp_bipush G dX10_say_43 (by decide) ?_
      refine wp_iald (j := 6) G dX10_say_45 h81 rfl (by decide) (by decide) ?_
      refine wp_iadd G dX10_say_46 ?_
      refine wp_iload_n G 1 dX10_say_47 rfl ?_
      refine wp_iastE (j := 288 + sl 6) (hp2 := (nx, h, [(80, oA 0 336 (fup sm (288 + sl 6) v))])) G dX10_say_48 h80 (by omega) (by omega) (by decide) rfl ?_
      refine wp_aload_n G 0 dX10_say_49 rfl ?_
      refine wp_get G 19 cOk9 fX10_60 dX10_say_50 h64 rfl ?_
      refine wp_bipush G dX10_say_53 (by decide) ?_
      refine wp_dup2 G rfl rfl dX10_say_55 ?_
      refine wp_iald (j := 6) G dX10_say_56 h81 rfl (by decide) (by decide) ?_
      refine wp_iconst G dX10_say_57 ?_
      refine wp_iadd G dX10_say_58 ?_
      refine wp_iastE (j := 6) (hp2 := (nx, h, [(80, oA 0 336 (fup sm (288 + sl 6) v)), (81, oA 0 7 (fup (fun f => ((sl f : Nat) : Int)) 6 (((sl 6 : Nat) : Int) + 1)))])) G dX10_say_59 h81 rfl (by decide) (by decide) rfl ?_
      refine wp_aload_n G 0 dX10_say_60 rfl ?_
      refine wp_get G 19 cOk9 fX10_60 dX10_say_61 h64 rfl ?_
      refine wp_bipush G dX10_say_64 (by decide) ?_
      refine wp_iald (j := 6) G dX10_say_66 rfl rfl (by decide) (by decide) ?_
      exact wp_ireturn G hr dX10_say_67 (by exact ⟨rfl, Or.inr (Or.inr (⟨by omega, by omega, by first | rfl | (congr 2; done) | (rw [fup_self]; done), rfl⟩))⟩)
    · skip
      refine wp_bipush G dX10_say_29 (by decide) ?_
      exact wp_ireturn G hr dX10_say_31 (by exact ⟨rfl, Or.inr (Or.inl (⟨by omega, by omega, rfl, rfl⟩))⟩)
  · skip
    refine wp_bipush G dX10_say_14 (by decide) ?_
    exact wp_ireturn G hr dX10_say_16 (by exact ⟨rfl, Or.inl (⟨by omega, rfl, rfl⟩)⟩)

set_option maxRecDepth 100000 in
set_option maxHeartbeats 4000000 in
theorem t_X10_wipe {nx : Nat} {h : Nat → Option PC} {n : Nat} {q : Nat → Nat → Int} {o : Nat → Nat} {fc : Nat} {hn : Nat} {ln : Nat} {ma : Int} {mb : Int} {st : Nat → Int} {sm : Nat → Int} {sl : Nat → Nat} {ri : Nat → Int} (hQ : isM h n q o fc hn ln ma mb st) (hO : okQ n q o) (hN : okN st) (hT : isMt h sm sl ri) (hsl : ∀ f, f < 7 → sl f ≤ 48) : Cx 0 (0, 0) yX10_wipe cX10_wipe 2 (some .int) [zR 64] nx h (Rt (zI ((sl 6 : Nat) : Int)) nx [(81, oA 0 7 (fup (fun f => ((sl f : Nat) : Int)) 6 0))]) := by
  refine cx_of pnX10_wipe (Nat.le_of_ble_eq_true rfl) ?_
  intro K G hr hnm hR
  obtain ⟨h64, h65, h66, h67, h68, h69, h70, h71, h72, h73⟩ := id hQ
  have hn40 := hO.1
  obtain ⟨hN0, hN1, hN2, hN3, hN4⟩ := id hN
  obtain ⟨h80, h81, h82⟩ := id hT
  have hsl6 := hsl 6 (by decide)
  show Wp K 2 (Mx K h (Rt (zI ((sl 6 : Nat) : Int)) nx [(81, oA 0 7 (fup (fun f => ((sl f : Nat) : Int)) 6 0))]) (0, 0)) (0, 0) 0 [(0, zR 64)] [] (nx, h, [])
  refine wp_aload_n G 0 dX10_wipe_0 rfl ?_
  refine wp_get G 19 cOk9 fX10_60 dX10_wipe_1 h64 rfl ?_
  refine wp_bipush G dX10_wipe_4 (by decide) ?_
  refine wp_iald (j := 6) G dX10_wipe_6 h81 rfl (by decide) (by decide) ?_
  refine wp_istore_n (lv' := [(1, zI ((sl 6 : Nat) : Int)), (0, zR 64)]) G dX10_wipe_7 (by decide) rfl ?_
  refine wp_aload_n G 1 dX10_wipe_8 rfl ?_
  refine wp_get G 19 cOk9 fX10_60 dX10_wipe_9 h64 rfl ?_
  refine wp_bipush G dX10_wipe_12 (by decide) ?_
  refine wp_iconst G dX10_wipe_14 ?_
  refine wp_iastE (j := 6) (hp2 := (nx, h, [(81, oA 0 7 (fup (fun f => ((sl f : Nat) : Int)) 6 0))])) G dX10_wipe_15 h81 rfl (by decide) (by decide) rfl ?_
  refine wp_iload_n G 0 dX10_wipe_16 rfl ?_
  exact wp_ireturn G hr dX10_wipe_17 ⟨by rfl, rfl, by rfl⟩

