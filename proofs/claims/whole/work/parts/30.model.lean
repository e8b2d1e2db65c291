theorem mlk_y1 {pr fa sp : Nat → Int} {q : Nat → Nat → Int} {o : Nat → Nat} {b calm : Int} {p k : Nat} (hah : ahd q (o k) (o p) ↔ k < p) (h : cnd q (-1) b (o k) ∧ ahd q (o k) (o p)) (h2 : (lik pr fa sp q o b calm p (min k p)).2 < wpl pr fa sp q o p k) : ((o k : Nat) : Int) = (lik pr fa sp q o b calm p (min (k + 1) p)).1 := by
  have hk := hah.mp h.2
  rw [show min k p = k by omega] at h2
  rw [show min (k + 1) p = k + 1 by omega, lik_y h.1 h2]
theorem mlk_y2 {pr fa sp : Nat → Int} {q : Nat → Nat → Int} {o : Nat → Nat} {b calm : Int} {p k : Nat} (hah : ahd q (o k) (o p) ↔ k < p) (h : cnd q (-1) b (o k) ∧ ahd q (o k) (o p)) (h2 : (lik pr fa sp q o b calm p (min k p)).2 < wpl pr fa sp q o p k) : wpl pr fa sp q o p k = (lik pr fa sp q o b calm p (min (k + 1) p)).2 := by
  have hk := hah.mp h.2
  rw [show min k p = k by omega] at h2
  rw [show min (k + 1) p = k + 1 by omega, lik_y h.1 h2]
theorem mlk_n {pr fa sp : Nat → Int} {q : Nat → Nat → Int} {o : Nat → Nat} {b calm : Int} {p k : Nat} (hah : ahd q (o k) (o p) ↔ k < p) (h : ¬ ((cnd q (-1) b (o k) ∧ ahd q (o k) (o p)) ∧ (lik pr fa sp q o b calm p (min k p)).2 < wpl pr fa sp q o p k)) : lik pr fa sp q o b calm p (min k p) = lik pr fa sp q o b calm p (min (k + 1) p) := by
  rcases Nat.lt_or_ge k p with c | c
  · rw [show min k p = k by omega] at h ⊢
    rw [show min (k + 1) p = k + 1 by omega, lik_n (fun z => h ⟨⟨z.1, hah.mpr c⟩, z.2⟩)]
  · rw [show min k p = p by omega, show min (k + 1) p = p by omega]
theorem mlk_n1 {pr fa sp : Nat → Int} {q : Nat → Nat → Int} {o : Nat → Nat} {b calm : Int} {p k : Nat} (hah : ahd q (o k) (o p) ↔ k < p) (h : ¬ ((cnd q (-1) b (o k) ∧ ahd q (o k) (o p)) ∧ (lik pr fa sp q o b calm p (min k p)).2 < wpl pr fa sp q o p k)) : (lik pr fa sp q o b calm p (min k p)).1 = (lik pr fa sp q o b calm p (min (k + 1) p)).1 := by rw [mlk_n hah h]
theorem mlk_n2 {pr fa sp : Nat → Int} {q : Nat → Nat → Int} {o : Nat → Nat} {b calm : Int} {p k : Nat} (hah : ahd q (o k) (o p) ↔ k < p) (h : ¬ ((cnd q (-1) b (o k) ∧ ahd q (o k) (o p)) ∧ (lik pr fa sp q o b calm p (min k p)).2 < wpl pr fa sp q o p k)) : (lik pr fa sp q o b calm p (min k p)).2 = (lik pr fa sp q o b calm p (min (k + 1) p)).2 := by rw [mlk_n hah h]
noncomputable def whN (q : Nat → Nat → Int) (n : Nat) (v b : Int) : Int := if 0 ≤ v ∧ v < ((n : Nat) : Int) then (if 0 ≤ b ∧ b ≤ 3999 then ifZ (cnd q (-1) b v.toNat) 0 (-3) else -2) else -1

set_option maxRecDepth 100000 in
set_option maxHeartbeats 4000000 in
theorem t_X10_in {nx : Nat} {h : Nat → Option PC} {v : Int} {lo : Int} {hi : Int} (ri_v : r64 v) (ri_lo : r64 lo) (ri_hi : r64 hi) : Cx 0 (0, 0) yX10_in cX10_in 6 (some .boolean) [zJ v, zJ lo, zJ hi] nx h (Rt (zI (bt (lo ≤ v ∧ v ≤ hi))) nx []) := by
  refine cx_of pnX10_in (Nat.le_of_ble_eq_true rfl) ?_
  intro K G hr hnm hR
  show Wp K 6 (Mx K h (Rt (zI (bt (lo ≤ v ∧ v ≤ hi))) nx []) (0, 0)) (0, 0) 0 [(0, zJ v), (2, zJ lo), (4, zJ hi)] [] (nx, h, [])
  refine wp_lload_n G 0 dX10_in_0 rfl ?_
  refine wp_lload_n G 1 dX10_in_1 rfl ?_
  refine wp_lcmp G (by omega) (by omega) dX10_in_2 ?_
  refine wp_if_lt G dX10_in_3 (cmpZ_r _ _) (fun kq1 => ?_) (fun kq1 => ?_)
  · have kq1 : v < lo := cmpZ_lt.mp kq1
    refine wp_iconst G dX10_in_17 ?_
    exact wp_zreturn G (by omega) hr dX10_in_18 ⟨by first | rw [bt_1 (by omega)] | rw [bt_0 (by omega)], rfl, by rfl⟩
  · have kq1 : lo ≤ v := (Int.not_lt.mp (fun z => absurd (cmpZ_lt.mpr z) (Int.not_lt.mpr kq1)))
    refine wp_lload_n G 0 dX10_in_6 rfl ?_
    refine wp_lload G 2 dX10_in_7 rfl ?_
    refine wp_lcmp G (by omega) (by omega) dX10_in_9 ?_
    refine wp_if_gt G dX10_in_10 (cmpZ_r _ _) (fun kq2 => ?_) (fun kq2 => ?_)
    · have kq2 : hi < v := cmpZ_gt.mp kq2
      refine wp_iconst G dX10_in_17 ?_
      exact wp_zreturn G (by omega) hr dX10_in_18 ⟨by first | rw [bt_1 (by omega)] | rw [bt_0 (by omega)], rfl, by rfl⟩
    · have kq2 : v ≤ hi := Int.not_lt.mp (fun z => absurd (cmpZ_gt.mpr z) (Int.not_lt.mpr kq2))
      refine wp_iconst G dX10_in_13 ?_
      refine wp_goto G dX10_in_14 ?_
      exact wp_zreturn G (by omega) hr dX10_in_18 ⟨by first | rw [bt_1 (by omega)] | rw [bt_0 (by omega)], rfl, by rfl⟩

set_option maxRecDepth 100000 in
set_option maxHeartbeats 4000000 in
theorem t_X10_size {nx : Nat} {h : Nat → Option PC} {a : Int} (ri_a : r32 a) : Cx 0 (0, 0) yX10_size cX10_size 1 (some .int) [zI a] nx h (Rt (zI (if 0 ≤ a then a else -a)) nx []) := by
  refine cx_of pnX10_size (Nat.le_of_ble_eq_true rfl) ?_
  intro K G hr hnm hR
  show Wp K 1 (Mx K h (Rt (zI (if 0 ≤ a then a else -a)) nx []) (0, 0)) (0, 0) 0 [(0, zI a)] [] (nx, h, [])
  refine wp_iload_n G 0 dX10_size_0 rfl ?_
  refine wp_if_ge G dX10_size_1 (by omega) (fun kq1 => ?_) (fun kq1 => ?_)
  · skip
    refine wp_iload_n G 0 dX10_size_9 rfl ?_
    exact wp_ireturn G hr dX10_size_10 ⟨by first | rw [if_pos (by omega)] | rw [if_neg (by omega)], rfl, by rfl⟩
  · skip
    refine wp_iload_n G 0 dX10_size_4 rfl ?_
    refine wp_ineg G dX10_size_5 ?_
    refine wp_goto G dX10_size_6 ?_
    exact wp_ireturn G hr dX10_size_10 ⟨by first | rw [if_pos (by omega)] | rw [if_neg (by omega)], rfl, by rfl⟩

set_option maxRecDepth 100000 in
set_option maxHeartbeats 4000000 in
theorem t_X10_isDay {nx : Nat} {h : Nat → Option PC} {v : Int} (ri_v : r32 v) : Cx 1 (0, 0) yX10_isDay cX10_isDay 1 (some .boolean) [zI v] nx h (Rt (zI (bt (0 ≤ v ∧ v ≤ 3999))) nx []) := by
  refine cx_of pnX10_isDay (Nat.le_of_ble_eq_true rfl) ?_
  intro K G hr hnm hR
  show Wp K 1 (Mx K h (Rt (zI (bt (0 ≤ v ∧ v ≤ 3999))) nx []) (0, 0)) (0, 0) 0 [(0, zI v)] [] (nx, h, [])
  refine wp_iload_n G 0 dX10_isDay_0 rfl ?_
  refine wp_i2l G (by omega) dX10_isDay_1 ?_
  refine wp_lconst (z := 0) G dX10_isDay_2 (by decide) ?_
  refine wp_ldc2 (z := 3999) G kX10_106 dX10_isDay_3 ?_
  refine wp_cSE (as := [zJ v, zJ 0, zJ 3999]) (rest := []) (hp2 := (nx, h, [])) G mX10_in lX10_100 sX10_in dX10_isDay_6 rfl rfl (Nat.le_of_ble_eq_true rfl) (rmx_ok hR (by decide) (by decide) (by decide) (by decide)) (t_X10_in (nx := nx) (v := v) (lo := 0) (hi := 3999) (by omega) (by omega) (by omega)) rfl ?_
  exact wp_zreturn G (bt_01 _) hr dX10_isDay_9 ⟨by rfl, rfl, by rfl⟩

set_option maxRecDepth 100000 in
set_option maxHeartbeats 4000000 in
theorem t_X10_isGreat {nx : Nat} {h : Nat → Option PC} {v : Int} (ri_v : r32 v) : Cx 1 (0, 0) yX10_isGreat cX10_isGreat 1 (some .boolean) [zI v] nx h (Rt (zI (bt (0 ≤ v ∧ v ≤ 90))) nx []) := by
  refine cx_of pnX10_isGreat (Nat.le_of_ble_eq_true rfl) ?_
  intro K G hr hnm hR
  show Wp K 1 (Mx K h (Rt (zI (bt (0 ≤ v ∧ v ≤ 90))) nx []) (0, 0)) (0, 0) 0 [(0, zI v)] [] (nx, h, [])
  refine wp_iload_n G 0 dX10_isGreat_0 rfl ?_
  refine wp_i2l G (by omega) dX10_isGreat_1 ?_
  refine wp_lconst (z := 0) G dX10_isGreat_2 (by decide) ?_
  refine wp_ldc2 (z := 90) G kX10_108 dX10_isGreat_3 ?_
  refine wp_cSE (as := [zJ v, zJ 0, zJ 90]) (rest := []) (hp2 := (nx, h, [])) G mX10_in lX10_100 sX10_in dX10_isGreat_6 rfl rfl (Nat.le_of_ble_eq_true rfl) (rmx_ok hR (by decide) (by decide) (by decide) (by decide)) (t_X10_in (nx := nx) (v := v) (lo := 0) (hi := 90) (by omega) (by omega) (by omega)) rfl ?_
  exact wp_zreturn G (bt_01 _) hr dX10_isGreat_9 ⟨by rfl, rfl, by rfl⟩

set_option maxRecDepth 100000 in
set_option maxHeartbeats 4000000 in
theorem t_X10_isList {nx : Nat} {h : Nat → Option PC} {v : Int} (ri_v : r32 v) : Cx 1 (0, 0) yX10_isList cX10_isList 1 (some .boolean) [zI v] nx h (Rt (zI (bt (0 ≤ v ∧ v ≤ 2))) nx []) := by
  refine cx_of pnX10_isList (Nat.le_of_ble_eq_true rfl) ?_
  intro K G hr hnm hR
  show Wp K 1 (Mx K h (Rt (zI (bt (0 ≤ v ∧ v ≤ 2))) nx []) (0, 0)) (0, 0) 0 [(0, zI v)] [] (nx, h, [])
  refine wp_iload_n G 0 dX10_isList_0 rfl ?_
  refine wp_i2l G (by omega) dX10_isList_1 ?_
  refine wp_lconst (z := 0) G dX10_isList_2 (by decide) ?_
  refine wp_ldc2 (z := 2) G kX10_110 dX10_isList_3 ?_
  refine wp_cSE (as := [zJ v, zJ 0, zJ 2]) (rest := []) (hp2 := (nx, h, [])) G mX10_in lX10_100 sX10_in dX10_isList_6 rfl rfl (Nat.le_of_ble_eq_true rfl) (rmx_ok hR (by decide) (by decide) (by decide) (by decide)) (t_X10_in (nx := nx) (v := v) (lo := 0) (hi := 2) (by omega) (by omega) (by omega)) rfl ?_
  exact wp_zreturn G (bt_01 _) hr dX10_isList_9 ⟨by rfl, rfl, by rfl⟩

set_option maxRecDepth 100000 in
set_option maxHeartbeats 4000000 in
theorem t_X10_mayList {nx : Nat} {h : Nat → Option PC} {v : Int} (ri_v : r32 v) : Cx 1 (0, 0) yX10_mayList cX10_mayList 1 (some .boolean) [zI v] nx h (Rt (zI (bt ((-1) ≤ v ∧ v ≤ 2))) nx []) := by
  refine cx_of pnX10_mayList (Nat.le_of_ble_eq_true rfl) ?_
  intro K G hr hnm hR
  show Wp K 1 (Mx K h (Rt (zI (bt ((-1) ≤ v ∧ v ≤ 2))) nx []) (0, 0)) (0, 0) 0 [(0, zI v)] [] (nx, h, [])
  refine wp_iload_n G 0 dX10_mayList_0 rfl ?_
  refine wp_i2l G (by omega) dX10_mayList_1 ?_
  refine wp_ldc2 (z := -1) G kX10_171 dX10_mayList_2 ?_
  refine wp_ldc2 (z := 2) G kX10_110 dX10_mayList_5 ?_
  refine wp_cSE (as := [zJ v, zJ (-1), zJ 2]) (rest := []) (hp2 := (nx, h, [])) G mX10_in lX10_100 sX10_in dX10_mayList_8 rfl rfl (Nat.le_of_ble_eq_true rfl) (rmx_ok hR (by decide) (by decide) (by decide) (by decide)) (t_X10_in (nx := nx) (v := v) (lo := (-1)) (hi := 2) (by omega) (by omega) (by omega)) rfl ?_
  exact wp_zreturn G (bt_01 _) hr dX10_mayList_11 ⟨by rfl, rfl, by rfl⟩

set_option maxRecDepth 100000 in
set_option maxHeartbeats 4000000 in
theorem t_X10_isPart {nx : Nat} {h : Nat → Option PC} {v : Int} (ri_v : r32 v) : Cx 1 (0, 0) yX10_isPart cX10_isPart 1 (some .boolean) [zI v] nx h (Rt (zI (bt (0 ≤ v ∧ v ≤ 1))) nx []) := by
  refine cx_of pnX10_isPart (Nat.le_of_ble_eq_true rfl) ?_
  intro K G hr hnm hR
  show Wp K 1 (Mx K h (Rt (zI (bt (0 ≤ v ∧ v ≤ 1))) nx []) (0, 0)) (0, 0) 0 [(0, zI v)] [] (nx, h, [])
  refine wp_iload_n G 0 dX10_isPart_0 rfl ?_
  refine wp_i2l G (by omega) dX10_isPart_1 ?_
  refine wp_lconst (z := 0) G dX10_isPart_2 (by decide) ?_
  refine wp_lconst (z := 1) G dX10_isPart_3 (by decide) ?_
  refine wp_cSE (as := [zJ v, zJ 0, zJ 1]) (rest := []) (hp2 := (nx, h, [])) G mX10_in lX10_100 sX10_in dX10_isPart_4 rfl rfl (Nat.le_of_ble_eq_true rfl) (rmx_ok hR (by decide) (by decide) (by decide) (by decide)) (t_X10_in (nx := nx) (v := v) (lo := 0) (hi := 1) (by omega) (by omega) (by omega)) rfl ?_
  exact wp_zreturn G (bt_01 _) hr dX10_isPart_7 ⟨by rfl, rfl, by rfl⟩

set_option maxRecDepth 100000 in
set_option maxHeartbeats 4000000 in
theorem t_X10_isDigit {nx : Nat} {h : Nat → Option PC} {v : Int} (ri_v : r32 v) : Cx 1 (0, 0) yX10_isDigit cX10_isDigit 1 (some .boolean) [zI v] nx h (Rt (zI (bt (48 ≤ v ∧ v ≤ 57))) nx []) := by
  refine cx_of pnX10_isDigit (Nat.le_of_ble_eq_true rfl) ?_
  intro K G hr hnm hR
  show Wp K 1 (Mx K h (Rt (zI (bt (48 ≤ v ∧ v ≤ 57))) nx []) (0, 0)) (0, 0) 0 [(0, zI v)] [] (nx, h, [])
  refine wp_iload_n G 0 dX10_isDigit_0 rfl ?_
  refine wp_i2l G (by omega) dX10_isDigit_1 ?_
  refine wp_ldc2 (z := 48) G kX10_254 dX10_isDigit_2 ?_
  refine wp_ldc2 (z := 57) G kX10_256 dX10_isDigit_5 ?_
  refine wp_cSE (as := [zJ v, zJ 48, zJ 57]) (rest := []) (hp2 := (nx, h, [])) G mX10_in lX10_100 sX10_in dX10_isDigit_8 rfl rfl (Nat.le_of_ble_eq_true rfl) (rmx_ok hR (by decide) (by decide) (by decide) (by decide)) (t_X10_in (nx := nx) (v := v) (lo := 48) (hi := 57) (by omega) (by omega) (by omega)) rfl ?_
  exact wp_zreturn G (bt_01 _) hr dX10_isDigit_11 ⟨by rfl, rfl, by rfl⟩

set_option maxRecDepth 100000 in
set_option maxHeartbeats 4000000 in
theorem t_X10_isCell {nx : Nat} {h : Nat → Option PC} {v : Int} {w : Int} (ri_v : r32 v) (ri_w : r32 w) : Cx 1 (0, 0) yX10_isCell cX10_isCell 2 (some .boolean) [zI v, zI w] nx h (Rt (zI (bt ((0 ≤ v ∧ v ≤ 15) ∧ (0 ≤ w ∧ w ≤ 15)))) nx []) := by
  refine cx_of pnX10_isCell (Nat.le_of_ble_eq_true rfl) ?_
  intro K G hr hnm hR
  show Wp K 2 (Mx K h (Rt (zI (bt ((0 ≤ v ∧ v ≤ 15) ∧ (0 ≤ w ∧ w ≤ 15)))) nx []) (0, 0)) (0, 0) 0 [(0, zI v), (1, zI w)] [] (nx, h, [])
  refine wp_iload_n G 0 dX10_isCell_0 rfl ?_
  refine wp_i2l G (by omega) dX10_isCell_1 ?_
  refine wp_lconst (z := 0) G dX10_isCell_2 (by decide) ?_
  refine wp_ldc2 (z := 15) G kX10_104 dX10_isCell_3 ?_
  refine wp_cSE (as := [zJ v, zJ 0, zJ 15]) (rest := []) (hp2 := (nx, h, [])) G mX10_in lX10_100 sX10_in dX10_isCell_6 rfl rfl (Nat.le_of_ble_eq_true rfl) (rmx_ok hR (by decide) (by decide) (by decide) (by decide)) (t_X10_in (nx := nx) (v := v) (lo := 0) (hi := 15) (by omega) (by omega) (by omega)) rfl ?_
  refine wp_ifeq_bt G dX10_isCell_9 (fun kq1 => ?_) (fun kq1 => ?_)
  · skip
    refine wp_iconst G dX10_isCell_28 ?_
    exact wp_zreturn G (by omega) hr dX10_isCell_29 ⟨by first | rw [bt_1 (by omega)] | rw [bt_0 (by omega)], rfl, by rfl⟩
  · skip
    refine wp_iload_n G 1 dX10_isCell_12 rfl ?_
    refine wp_i2l G (by omega) dX10_isCell_13 ?_
    refine wp_lconst (z := 0) G dX10_isCell_14 (by decide) ?_
    refine wp_ldc2 (z := 15) G kX10_104 dX10_isCell_15 ?_
    refine wp_cSE (as := [zJ w, zJ 0, zJ 15]) (rest := []) (hp2 := (nx, h, [])) G mX10_in lX10_100 sX10_in dX10_isCell_18 rfl rfl (Nat.le_of_ble_eq_true rfl) (rmx_ok hR (by decide) (by decide) (by decide) (by decide)) (t_X10_in (nx := nx) (v := w) (lo := 0) (hi := 15) (by omega) (by omega) (by omega)) rfl ?_
    refine wp_ifeq_bt G dX10_isCell_21 (fun kq2 => ?_) (fun kq2 => ?_)
    · skip
      refine wp_iconst G dX10_isCell_28 ?_
      exact wp_zreturn G (by omega) hr dX10_isCell_29 ⟨by first | rw [bt_1 (by omega)] | rw [bt_0 (by omega)], rfl, by rfl⟩
    · skip
      refine wp_iconst G dX10_isCell_24 ?_
      refine wp_goto G dX10_isCell_25 ?_
      exact wp_zreturn G (by omega) hr dX10_isCell_29 ⟨by first | rw [bt_1 (by omega)] | rw [bt_0 (by omega)], rfl, by rfl⟩

set_option maxRecDepth 100000 in
set_option maxHeartbeats 4000000 in
theorem t_X10_areDays {nx : Nat} {h : Nat → Option PC} {m : Int} {v : Int} {w : Int} (ri_m : r32 m) (ri_v : r32 v) (ri_w : r32 w) : Cx 2 (0, 0) yX10_areDays cX10_areDays 3 (some .boolean) [zI m, zI v, zI w] nx h (Rt (zI (bt ((0 ≤ m ∧ m ≤ 90) ∧ (0 ≤ v ∧ v ≤ 3999) ∧ (0 ≤ w ∧ w ≤ 3999) ∧ v ≤ w))) nx []) := by
  refine cx_of pnX10_areDays (Nat.le_of_ble_eq_true rfl) ?_
  intro K G hr hnm hR
  show Wp K 3 (Mx K h (Rt (zI (bt ((0 ≤ m ∧ m ≤ 90) ∧ (0 ≤ v ∧ v ≤ 3999) ∧ (0 ≤ w ∧ w ≤ 3999) ∧ v ≤ w))) nx []) (0, 0)) (0, 0) 0 [(0, zI m), (1, zI v), (2, zI w)] [] (nx, h, [])
  refine wp_iload_n G 0 dX10_areDays_0 rfl ?_
  refine wp_cSE (as := [zI m]) (rest := []) (hp2 := (nx, h, [])) G mX10_isGreat lX10_123 sX10_isGreat dX10_areDays_1 rfl rfl (Nat.le_of_ble_eq_true rfl) (rmx_ok hR (by decide) (by decide) (by decide) (by decide)) (t_X10_isGreat (nx := nx) (v := m) (by omega)) rfl ?_
  refine wp_ifeq_bt G dX10_areDays_4 (fun kq1 => ?_) (fun kq1 => ?_)
  · skip
    refine wp_iconst G dX10_areDays_30 ?_
    exact wp_zreturn G (by omega) hr dX10_areDays_31 ⟨by first | rw [bt_1 (by omega)] | rw [bt_0 (by omega)], rfl, by rfl⟩
  · skip
    refine wp_iload_n G 1 dX10_areDays_7 rfl ?_
    refine wp_cSE (as := [zI v]) (rest := []) (hp2 := (nx, h, [])) G mX10_isDay lX10_120 sX10_isDay dX10_areDays_8 rfl rfl (Nat.le_of_ble_eq_true rfl) (rmx_ok hR (by decide) (by decide) (by decide) (by decide)) (t_X10_isDay (nx := nx) (v := v) ri_v) rfl ?_
    refine wp_ifeq_bt G dX10_areDays_11 (fun kq2 => ?_) (fun kq2 => ?_)
    · skip
      refine wp_iconst G dX10_areDays_30 ?_
      exact wp_zreturn G (by omega) hr dX10_areDays_31 ⟨by first | rw [bt_1 (by omega)] | rw [bt_0 (by omega)], rfl, by rfl⟩
    · skip
      refine wp_iload_n G 2 dX10_areDays_14 rfl ?_
      refine wp_cSE (as := [zI w]) (rest := []) (hp2 := (nx, h, [])) G mX10_isDay lX10_120 sX10_isDay dX10_areDays_15 rfl rfl (Nat.le_of_ble_eq_true rfl) (rmx_ok hR (by decide) (by decide) (by decide) (by decide)) (t_X10_isDay (nx := nx) (v := w) (by omega)) rfl ?_
      refine wp_ifeq_bt G dX10_areDays_18 (fun kq3 => ?_) (fun kq3 => ?_)
      · skip
        refine wp_iconst G dX10_areDays_30 ?_
        exact wp_zreturn G (by omega) hr dX10_areDays_31 ⟨by first | rw [bt_1 (by omega)] | rw [bt_0 (by omega)], rfl, by rfl⟩
      · skip
        refine wp_iload_n G 1 dX10_areDays_21 rfl ?_
        refine wp_iload_n G 2 dX10_areDays_22 rfl ?_
        refine wp_icmp_gt G dX10_areDays_23 (by omega) (by omega) (fun kq4 => ?_) (fun kq4 => ?_)
        · skip
          refine wp_iconst G dX10_areDays_30 ?_
          exact wp_zreturn G (by omega) hr dX10_areDays_31 ⟨by first | rw [bt_1 (by omega)] | rw [bt_0 (by omega)], rfl, by rfl⟩
        · skip
          refine wp_iconst G dX10_areDays_26 ?_
          refine wp_goto G dX10_areDays_27 ?_
          exact wp_zreturn G (by omega) hr dX10_areDays_31 ⟨by first | rw [bt_1 (by omega)] | rw [bt_0 (by omega)], rfl, by rfl⟩

set_option maxRecDepth 100000 in
set_option maxHeartbeats 4000000 in
theorem t_X10_far {nx : Nat} {h : Nat → Option PC} {a : Int} {b : Int} {c : Int} {e : Int} (ha : 0 ≤ a ∧ a ≤ 15) (hb : 0 ≤ b ∧ b ≤ 15) (hc : 0 ≤ c ∧ c ≤ 15) (he : 0 ≤ e ∧ e ≤ 15) : Cx 1 (0, 0) yX10_far cX10_far 6 (some .int) [zI a, zI b, zI c, zI e] nx h (Rt (zI (farZ a b c e)) nx []) := by
  refine cx_of pnX10_far (Nat.le_of_ble_eq_true rfl) ?_
  intro K G hr hnm hR
  have hd1 : 0 ≤ (if 0 ≤ (a - c) then (a - c) else -(a - c)) ∧ (if 0 ≤ (a - c) then (a - c) else -(a - c)) ≤ 15 := by split <;> omega
  have hd2 : 0 ≤ (if 0 ≤ (b - e) then (b - e) else -(b - e)) ∧ (if 0 ≤ (b - e) then (b - e) else -(b - e)) ≤ 15 := by split <;> omega
  show Wp K 6 (Mx K h (Rt (zI (farZ a b c e)) nx []) (0, 0)) (0, 0) 0 [(0, zI a), (1, zI b), (2, zI c), (3, zI e)] [] (nx, h, [])
  refine wp_iload_n G 0 dX10_far_0 rfl ?_
  refine wp_iload_n G 2 dX10_far_1 rfl ?_
  refine wp_isub G dX10_far_2 ?_
  refine wp_cSE (as := [zI (a - c)]) (rest := []) (hp2 := (nx, h, [])) G mX10_size lX10_139 sX10_size dX10_far_3 rfl rfl (Nat.le_of_ble_eq_true rfl) (rmx_ok hR (by decide) (by decide) (by decide) (by decide)) (t_X10_size (nx := nx) (a := (a - c)) (by omega)) rfl ?_
  refine wp_istore (lv' := [(4, zI (if 0 ≤ (a - c) then (a - c) else -(a - c))), (0, zI a), (1, zI b), (2, zI c), (3, zI e)]) G dX10_far_6 (by decide) rfl ?_
  refine wp_iload_n G 2 dX10_far_8 rfl ?_
  refine wp_iload_n G 4 dX10_far_9 rfl ?_
  refine wp_isub G dX10_far_10 ?_
  refine wp_cSE (as := [zI (b - e)]) (rest := []) (hp2 := (nx, h, [])) G mX10_size lX10_139 sX10_size dX10_far_11 rfl rfl (Nat.le_of_ble_eq_true rfl) (rmx_ok hR (by decide) (by decide) (by decide) (by decide)) (t_X10_size (nx := nx) (a := (b - e)) (by omega)) rfl ?_
  refine wp_istore (lv' := [(5, zI (if 0 ≤ (b - e) then (b - e) else -(b - e))), (4, zI (if 0 ≤ (a - c) then (a - c) else -(a - c))), (0, zI a), (1, zI b), (2, zI c), (3, zI e)]) G dX10_far_14 (by decide) rfl ?_
  refine wp_iload G 1 dX10_far_16 rfl ?_
  refine wp_iload G 0 dX10_far_18 rfl ?_
  refine wp_icmp_le G dX10_far_20 (by omega) (by omega) (fun kq1 => ?_) (fun kq1 => ?_)
  · skip
    refine wp_iload G 0 dX10_far_28 rfl ?_
    exact wp_ireturn G hr dX10_far_30 ⟨by unfold farZ; first | rw [Int.max_eq_left (by omega)] | rw [Int.max_eq_right (by omega)], rfl, by rfl⟩
  · skip
    refine wp_iload G 1 dX10_far_23 rfl ?_
    refine wp_goto G dX10_far_25 ?_
    exact wp_ireturn G hr dX10_far_30 ⟨by unfold farZ; first | rw [Int.max_eq_left (by omega)] | rw [Int.max_eq_right (by omega)], rfl, by rfl⟩

set_option maxRecDepth 100000 in
set_option maxHeartbeats 4000000 in
theorem t_X10_lowest {nx : Nat} {h : Nat → Option PC} {a : Nat} {b : Nat} {p : Int} (ha : a < 1152921504606846976) (hb : b < 1152921504606846976) (hb0 : 0 < b) (ri_p : r32 p) : Cx 0 (0, 0) yX10_lowest cX10_lowest 11 (some .long) [zJ ((a : Nat) : Int), zJ ((b : Nat) : Int), zI p] nx h (Rt (zJ (frc a b p)) nx []) := by
  refine cx_of pnX10_lowest (Nat.le_of_ble_eq_true rfl) ?_
  intro K G hr hnm hR
  have hg0 : 0 < Nat.gcd a b := Nat.gcd_pos_of_pos_right a hb0
  have hg1 : Nat.gcd a b ≤ b := Nat.gcd_le_right a hb0
  show Wp K 11 (Mx K h (Rt (zJ (frc a b p)) nx []) (0, 0)) (0, 0) 0 [(0, zJ ((a : Nat) : Int)), (2, zJ ((b : Nat) : Int)), (4, zI p)] [] (nx, h, [])
  refine wp_lload_n G 0 dX10_lowest_0 rfl ?_
  refine wp_lstore (lv' := [(5, zJ ((a : Nat) : Int)), (0, zJ ((a : Nat) : Int)), (2, zJ ((b : Nat) : Int)), (4, zI p)]) G dX10_lowest_1 (by decide) rfl ?_
  refine wp_lload_n G 2 dX10_lowest_3 rfl ?_
  refine wp_lstore (lv' := [(7, zJ ((b : Nat) : Int)), (5, zJ ((a : Nat) : Int)), (0, zJ ((a : Nat) : Int)), (2, zJ ((b : Nat) : Int)), (4, zI p)]) G dX10_lowest_4 (by decide) rfl ?_
  refine wp_lv [2, 3, 4, 1, 0] rfl ?_
  suffices lp6 : ∀ (fu : Nat) (x : Nat) (y : Nat) (v5 : Int) (v7 : Int), y < fu → (v5 = ((x : Nat) : Int)) → (v7 = ((y : Nat) : Int)) → (x < 1152921504606846976 ∧ y < 1152921504606846976) → (Nat.gcd x y = Nat.gcd a b) → Wp K 11 (Mx K h (Rt (zJ (frc a b p)) nx []) (0, 0)) (0, 0) 6 [(0, zJ ((a : Nat) : Int)), (2, zJ ((b : Nat) : Int)), (4, zI p), (5, zJ v5), (7, zJ v7)] [] (nx, h, []) from lp6 _ a b ((a : Nat) : Int) ((b : Nat) : Int) (Nat.lt_succ_self _) (by omega) (by omega) (by omega) (by rfl)
  intro fu
  induction fu with
  | zero => intro x y v5 v7 hm; exact absurd hm (Nat.not_lt_zero _)
  | succ fu ih6 =>
    intro x y v5 v7 hm6 e5 e7 hxy hg
    subst e5
    subst e7
    refine wp_lload G 4 dX10_lowest_6 rfl ?_
    refine wp_lconst (z := 0) G dX10_lowest_8 (by decide) ?_
    refine wp_lcmp G (by omega) (by omega) dX10_lowest_9 ?_
    refine wp_if_eq G dX10_lowest_10 (cmpZ_r _ _) (fun kq1 => ?_) (fun kq1 => ?_)
    · have kq1 : ((y : Nat) : Int) = 0 := cmpZ_eq.mp kq1
      have ey : y = 0 := by omega
      subst ey
      rw [Nat.gcd_zero_right] at hg
      subst hg
      refine wp_iload G 2 dX10_lowest_31 rfl ?_
      refine wp_if_ne G dX10_lowest_33 (by omega) (fun kq2 => ?_) (fun kq2 => ?_)
      · skip
        refine wp_lload_n G 1 dX10_lowest_43 rfl ?_
        refine wp_lload G 3 dX10_lowest_44 rfl ?_
        refine wp_ldiv G (by omega) (by omega) (by omega) (by omega) dX10_lowest_46 ?_
        exact wp_lreturn G hr dX10_lowest_47 ⟨by unfold frc; first | (rw [if_pos (by omega)]; rfl) | (rw [if_neg (by omega)]; rfl), rfl, by rfl⟩
      · skip
        refine wp_lload_n G 0 dX10_lowest_36 rfl ?_
        refine wp_lload G 3 dX10_lowest_37 rfl ?_
        refine wp_ldiv G (by omega) (by omega) (by omega) (by omega) dX10_lowest_39 ?_
        refine wp_goto G dX10_lowest_40 ?_
        exact wp_lreturn G hr dX10_lowest_47 ⟨by unfold frc; first | (rw [if_pos (by omega)]; rfl) | (rw [if_neg (by omega)]; rfl), rfl, by rfl⟩
    · have kq1 : ((y : Nat) : Int) ≠ 0 := fun z => kq1 (cmpZ_eq.mpr z)
      refine wp_lload G 3 dX10_lowest_13 rfl ?_
      refine wp_lload G 4 dX10_lowest_15 rfl ?_
      refine wp_lrem G (by omega) (by omega) (by omega) dX10_lowest_17 ?_
      refine wp_lstore (lv' := [(9, zJ (Int.tmod ((x : Nat) : Int) ((y : Nat) : Int))), (0, zJ ((a : Nat) : Int)), (2, zJ ((b : Nat) : Int)), (4, zI p), (5, zJ ((x : Nat) : Int)), (7, zJ ((y : Nat) : Int))]) G dX10_lowest_18 (by decide) rfl ?_
      refine wp_lload G 5 dX10_lowest_20 rfl ?_
      refine wp_lstore (lv' := [(5, zJ ((y : Nat) : Int)), (9, zJ (Int.tmod ((x : Nat) : Int) ((y : Nat) : Int))), (0, zJ ((a : Nat) : Int)), (2, zJ ((b : Nat) : Int)), (4, zI p), (7, zJ ((y : Nat) : Int))]) G dX10_lowest_22 (by decide) rfl ?_
      refine wp_lload G 1 dX10_lowest_24 rfl ?_
      refine wp_lstore (lv' := [(7, zJ (Int.tmod ((x : Nat) : Int) ((y : Nat) : Int))), (5, zJ ((y : Nat) : Int)), (9, zJ (Int.tmod ((x : Nat) : Int) ((y : Nat) : Int))), (0, zJ ((a : Nat) : Int)), (2, zJ ((b : Nat) : Int)), (4, zI p)]) G dX10_lowest_26 (by decide) rfl ?_
      refine wp_goto G dX10_lowest_28 ?_
      refine wp_lv [3, 4, 5, 1, 0] rfl ?_
      exact ih6 y (x % y) ((y : Nat) : Int) (Int.tmod ((x : Nat) : Int) ((y : Nat) : Int)) (by have hml := Nat.mod_lt x (show 0 < y by omega); omega) (by omega) (by exact (Int.ofNat_tmod x y).symm) (by have hml := Nat.mod_lt x (show 0 < y by omega); omega) (by rw [← hg, Nat.gcd_comm x y, Nat.gcd_rec y x, Nat.gcd_comm])

set_option maxRecDepth 100000 in
set_option maxHeartbeats 4000000 in
theorem t_X10_isQuake {nx : Nat} {h : Nat → Option PC} {n : Nat} {q : Nat → Nat → Int} {o : Nat → Nat} {fc : Nat} {hn : Nat} {ln : Nat} {ma : Int} {mb : Int} {st : Nat → Int} {v : Int} (hQ : isM h n q o fc hn ln ma mb st) (hO : okQ n q o) (hN : okN st) (ri_v : r32 v) : Cx 1 (0, 0) yX10_isQuake cX10_isQuake 2 (some .boolean) [zR 64, zI v] nx h (Rt (zI (bt (0 ≤ v ∧ v < ((n : Nat) : Int)))) nx []) := by
  refine cx_of pnX10_isQuake (Nat.le_of_ble_eq_true rfl) ?_
  intro K G hr hnm hR
  obtain ⟨h64, h65, h66, h67, h68, h69, h70, h71, h72, h73⟩ := id hQ
  have hn40 := hO.1
  obtain ⟨hN0, hN1, hN2, hN3, hN4⟩ := id hN
  show Wp K 2 (Mx K h (Rt (zI (bt (0 ≤ v ∧ v < ((n : Nat) : Int)))) nx []) (0, 0)) (0, 0) 0 [(0, zR 64), (1, zI v)] [] (nx, h, [])
  refine wp_iload_n G 1 dX10_isQuake_0 rfl ?_
  refine wp_i2l G (by omega) dX10_isQuake_1 ?_
  refine wp_lconst (z := 0) G dX10_isQuake_2 (by decide) ?_
  refine wp_aload_n G 0 dX10_isQuake_3 rfl ?_
  refine wp_get G 7 cOk9 fX10_96 dX10_isQuake_4 h64 rfl ?_
  refine wp_iconst G dX10_isQuake_7 ?_
  refine wp_isub G dX10_isQuake_8 ?_
  refine wp_i2l G (by omega) dX10_isQuake_9 ?_
  refine wp_cSE (as := [zJ v, zJ 0, zJ (((n : Nat) : Int) - 1)]) (rest := []) (hp2 := (nx, h, [])) G mX10_in lX10_100 sX10_in dX10_isQuake_10 rfl rfl (Nat.le_of_ble_eq_true rfl) (rmx_ok hR (by decide) (by decide) (by decide) (by decide)) (t_X10_in (nx := nx) (v := v) (lo := 0) (hi := (((n : Nat) : Int) - 1)) (by omega) (by omega) (by omega)) rfl ?_
  exact wp_zreturn G (bt_01 _) hr dX10_isQuake_13 ⟨by rw [bt_iff (show (0 ≤ v ∧ v ≤ ((n : Nat) : Int) - 1) ↔ (0 ≤ v ∧ v < ((n : Nat) : Int)) by omega)], rfl, by rfl⟩

set_option maxRecDepth 100000 in
set_option maxHeartbeats 4000000 in
theorem t_X10_isForecast {nx : Nat} {h : Nat → Option PC} {n : Nat} {q : Nat → Nat → Int} {o : Nat → Nat} {fc : Nat} {hn : Nat} {ln : Nat} {ma : Int} {mb : Int} {st : Nat → Int} {v : Int} (hQ : isM h n q o fc hn ln ma mb st) (hO : okQ n q o) (hN : okN st) (ri_v : r32 v) (hfc : fc ≤ 6) : Cx 1 (0, 0) yX10_isForecast cX10_isForecast 2 (some .boolean) [zR 64, zI v] nx h (Rt (zI (bt (0 ≤ v ∧ v < ((fc : Nat) : Int)))) nx []) := by
  refine cx_of pnX10_isForecast (Nat.le_of_ble_eq_true rfl) ?_
  intro K G hr hnm hR
  obtain ⟨h64, h65, h66, h67, h68, h69, h70, h71, h72, h73⟩ := id hQ
  have hn40 := hO.1
  obtain ⟨hN0, hN1, hN2, hN3, hN4⟩ := id hN
  show Wp K 2 (Mx K h (Rt (zI (bt (0 ≤ v ∧ v < ((fc : Nat) : Int)))) nx []) (0, 0)) (0, 0) 0 [(0, zR 64), (1, zI v)] [] (nx, h, [])
  refine wp_iload_n G 1 dX10_isForecast_0 rfl ?_
  refine wp_i2l G (by omega) dX10_isForecast_1 ?_
  refine wp_lconst (z := 0) G dX10_isForecast_2 (by decide) ?_
  refine wp_aload_n G 0 dX10_isForecast_3 rfl ?_
  refine wp_get G 20 cOk9 fX10_264 dX10_isForecast_4 h64 rfl ?_
  refine wp_iconst G dX10_isForecast_7 ?_
  refine wp_isub G dX10_isForecast_8 ?_
  refine wp_i2l G (by omega) dX10_isForecast_9 ?_
  refine wp_cSE (as := [zJ v, zJ 0, zJ (((fc : Nat) : Int) - 1)]) (rest := []) (hp2 := (nx, h, [])) G mX10_in lX10_100 sX10_in dX10_isForecast_10 rfl rfl (Nat.le_of_ble_eq_true rfl) (rmx_ok hR (by decide) (by decide) (by decide) (by decide)) (t_X10_in (nx := nx) (v := v) (lo := 0) (hi := (((fc : Nat) : Int) - 1)) (by omega) (by omega) (by omega)) rfl ?_
  exact wp_zreturn G (bt_01 _) hr dX10_isForecast_13 ⟨by rw [bt_iff (show (0 ≤ v ∧ v ≤ ((fc : Nat) : Int) - 1) ↔ (0 ≤ v ∧ v < ((fc : Nat) : Int)) by omega)], rfl, by rfl⟩

set_option maxRecDepth 100000 in
set_option maxHeartbeats 4000000 in
theorem t_X10_placeOf {nx : Nat} {h : Nat → Option PC} {n : Nat} {q : Nat → Nat → Int} {o : Nat → Nat} {fc : Nat} {hn : Nat} {ln : Nat} {ma : Int} {mb : Int} {st : Nat → Int} {p : Nat} (hQ : isM h n q o fc hn ln ma mb st) (hO : okQ n q o) (hN : okN st) (hp : p < n) : Cx 0 (0, 0) yX10_placeOf cX10_placeOf 3 (some .int) [zR 64, zI ((o p : Nat) : Int)] nx h (Rt (zI ((p : Nat) : Int)) nx []) := by
  refine cx_of pnX10_placeOf (Nat.le_of_ble_eq_true rfl) ?_
  intro K G hr hnm hR
  obtain ⟨h64, h65, h66, h67, h68, h69, h70, h71, h72, h73⟩ := id hQ
  have hn40 := hO.1
  obtain ⟨hN0, hN1, hN2, hN3, hN4⟩ := id hN
  have hop := hO.o p hp
  show Wp K 3 (Mx K h (Rt (zI ((p : Nat) : Int)) nx []) (0, 0)) (0, 0) 0 [(0, zR 64), (1, zI ((o p : Nat) : Int))] [] (nx, h, [])
  refine wp_iconst G dX10_placeOf_0 ?_
  refine wp_istore_n (lv' := [(2, zI 0), (0, zR 64), (1, zI ((o p : Nat) : Int))]) G dX10_placeOf_1 (by decide) rfl ?_
  refine wp_lv [1, 2, 0] rfl ?_
  suffices lp2 : ∀ (fu : Nat) (k : Nat) (v2 : Int), p - k < fu → (v2 = ((k : Nat) : Int)) → (k ≤ p) → Wp K 3 (Mx K h (Rt (zI ((p : Nat) : Int)) nx []) (0, 0)) (0, 0) 2 [(0, zR 64), (1, zI ((o p : Nat) : Int)), (2, zI v2)] [] (nx, h, []) from lp2 _ 0 0 (Nat.lt_succ_self _) (by omega) (by omega)
  intro fu
  induction fu with
  | zero => intro k v2 hm; exact absurd hm (Nat.not_lt_zero _)
  | succ fu ih2 =>
    intro k v2 hm2 e2 hi0
    subst e2
    refine wp_aload_n G 0 dX10_placeOf_2 rfl ?_
    refine wp_get G 9 cOk9 fX10_35 dX10_placeOf_3 h64 rfl ?_
    refine wp_iload_n G 2 dX10_placeOf_6 rfl ?_
    refine wp_iald (j := k) G dX10_placeOf_7 h73 rfl (by omega) (by decide) ?_
    have rrq1 := hO.o k (by omega)
    refine wp_iload_n G 1 dX10_placeOf_8 rfl ?_
    have hne : k < p → o k ≠ o p := fun z => ahd_ne (hO.2.2.2.1 k p z hp)
    refine wp_icmp_eq G dX10_placeOf_9 (by omega) (by omega) (fun kq1 => ?_) (fun kq1 => ?_)
    · skip
      refine wp_iload_n G 2 dX10_placeOf_18 rfl ?_
      exact wp_ireturn G hr dX10_placeOf_19 ⟨by rw [show k = p by omega], rfl, by rfl⟩
    · skip
      have hkp : k ≠ p := fun z => kq1 (by rw [z])
      refine wp_iinc (lv' := [(2, zI (((k : Nat) : Int) + 1)), (0, zR 64), (1, zI ((o p : Nat) : Int))]) G 2 dX10_placeOf_12 rfl (by decide) rfl ?_
      refine wp_goto G dX10_placeOf_15 ?_
      refine wp_lv [1, 2, 0] rfl ?_
      exact ih2 (k + 1) (((k : Nat) : Int) + 1) (by omega) (by omega) (by omega)

set_option maxRecDepth 100000 in
set_option maxHeartbeats 4000000 in
theorem t_X10_mostOf {nx : Nat} {h : Nat → Option PC} {v : Int} (ri_v : r32 v) : Cx 0 (0, 0) yX10_mostOf cX10_mostOf 1 (some .int) [zI v] nx h (Rt (zI (if v = 0 then 10 else if v = 1 then 5 else if v = 3 then 100000 else 20)) nx []) := by
  refine cx_of pnX10_mostOf (Nat.le_of_ble_eq_true rfl) ?_
  intro K G hr hnm hR
  show Wp K 1 (Mx K h (Rt (zI (if v = 0 then 10 else if v = 1 then 5 else if v = 3 then 100000 else 20)) nx []) (0, 0)) (0, 0) 0 [(0, zI v)] [] (nx, h, [])
  refine wp_iload_n G 0 dX10_mostOf_0 rfl ?_
  have sq1 : v = 0 ∨ v = 1 ∨ v = 2 ∨ v = 3 ∨ (v < 0 ∨ 3 < v) := by omega
  rcases sq1 with rfl | rfl | rfl | rfl | sq1
  · refine wp_tableIn (off := 31) (tgt := 32) G dX10_mostOf_1 (by omega) (by omega) (by omega) rfl (by decide) ?_
    refine wp_bipush G dX10_mostOf_32 (by decide) ?_
    exact wp_ireturn G hr dX10_mostOf_34 ⟨by simp, rfl, by rfl⟩
  · refine wp_tableIn (off := 34) (tgt := 35) G dX10_mostOf_1 (by omega) (by omega) (by omega) rfl (by decide) ?_
    refine wp_iconst G dX10_mostOf_35 ?_
    exact wp_ireturn G hr dX10_mostOf_36 ⟨by simp, rfl, by rfl⟩
  · refine wp_tableIn (off := 39) (tgt := 40) G dX10_mostOf_1 (by omega) (by omega) (by omega) rfl (by decide) ?_
    refine wp_bipush G dX10_mostOf_40 (by decide) ?_
    exact wp_ireturn G hr dX10_mostOf_42 ⟨by first | (simp; done) | (rw [if_neg (by omega), if_neg (by omega), if_neg (by omega)]), rfl, by rfl⟩
  · refine wp_tableIn (off := 36) (tgt := 37) G dX10_mostOf_1 (by omega) (by omega) (by omega) rfl (by decide) ?_
    refine wp_ldc (z := 100000) G kX10_133 dX10_mostOf_37 ?_
    exact wp_ireturn G hr dX10_mostOf_39 ⟨by simp, rfl, by rfl⟩
  · refine wp_tableOut (tgt := 40) G dX10_mostOf_1 (by omega) sq1 (by decide) ?_
    refine wp_bipush G dX10_mostOf_40 (by decide) ?_
    exact wp_ireturn G hr dX10_mostOf_42 ⟨by first | (simp; done) | (rw [if_neg (by omega), if_neg (by omega), if_neg (by omega)]), rfl, by rfl⟩

set_option maxRecDepth 100000 in
set_option maxHeartbeats 4000000 in
theorem t_X10_isCounted {nx : Nat} {h : Nat → Option PC} {n : Nat} {q : Nat → Nat → Int} {o : Nat → Nat} {fc : Nat} {hn : Nat} {ln : Nat} {ma : Int} {mb : Int} {st : Nat → Int} {j : Nat} {a : Int} {b : Int} (hQ : isM h n q o fc hn ln ma mb st) (hO : okQ n q o) (hN : okN st) (hj : j < n) (ha : -1 ≤ a ∧ a ≤ 2) (ri_b : r32 b) : Cx 0 (0, 0) yX10_isCounted cX10_isCounted 4 (some .boolean) [zR 64, zI ((j : Nat) : Int), zI a, zI b] nx h (Rt (zI (bt (cnd q a b j))) nx []) := by
  refine cx_of pnX10_isCounted (Nat.le_of_ble_eq_true rfl) ?_
  intro K G hr hnm hR
  obtain ⟨h64, h65, h66, h67, h68, h69, h70, h71, h72, h73⟩ := id hQ
  have hn40 := hO.1
  obtain ⟨hN0, hN1, hN2, hN3, hN4⟩ := id hN
  show Wp K 4 (Mx K h (Rt (zI (bt (cnd q a b j))) nx []) (0, 0)) (0, 0) 0 [(0, zR 64), (1, zI ((j : Nat) : Int)), (2, zI a), (3, zI b)] [] (nx, h, [])
  refine wp_aload_n G 0 dX10_isCounted_0 rfl ?_
  refine wp_get G 6 cOk9 fX10_28 dX10_isCounted_1 h64 rfl ?_
  refine wp_iload_n G 1 dX10_isCounted_4 rfl ?_
  refine wp_zald (j := j) G dX10_isCounted_5 h71 rfl (by omega) (by decide) ?_
  have rrq1 := hO.b j (by omega)
  refine wp_if_ne G dX10_isCounted_6 (by omega) (fun kq1 => ?_) (fun kq1 => ?_)
  · skip
    refine wp_iconst G dX10_isCounted_37 ?_
    exact wp_zreturn G (by omega) hr dX10_isCounted_38 ⟨by first | rw [bt_1 (by unfold cnd; omega)] | rw [bt_0 (by unfold cnd; omega)], rfl, by rfl⟩
  · skip
    refine wp_iload_n G 2 dX10_isCounted_9 rfl ?_
    refine wp_if_lt G dX10_isCounted_10 (by omega) (fun kq2 => ?_) (fun kq2 => ?_)
    · skip
      refine wp_aload_n G 0 dX10_isCounted_23 rfl ?_
      refine wp_get G 5 cOk9 fX10_25 dX10_isCounted_24 h64 rfl ?_
      refine wp_iload_n G 1 dX10_isCounted_27 rfl ?_
      refine wp_iald (j := j) G dX10_isCounted_28 h70 rfl (by omega) (by decide) ?_
      have rrq2 := hO.t j (by omega)
      refine wp_iload_n G 3 dX10_isCounted_29 rfl ?_
      refine wp_icmp_gt G dX10_isCounted_30 (by omega) (by omega) (fun kq3 => ?_) (fun kq3 => ?_)
      · skip
        refine wp_iconst G dX10_isCounted_37 ?_
        exact wp_zreturn G (by omega) hr dX10_isCounted_38 ⟨by first | rw [bt_1 (by unfold cnd; omega)] | rw [bt_0 (by unfold cnd; omega)], rfl, by rfl⟩
      · skip
        refine wp_iconst G dX10_isCounted_33 ?_
        refine wp_goto G dX10_isCounted_34 ?_
        exact wp_zreturn G (by omega) hr dX10_isCounted_38 ⟨by first | rw [bt_1 (by unfold cnd; omega)] | rw [bt_0 (by unfold cnd; omega)], rfl, by rfl⟩
    · skip
      refine wp_aload_n G 0 dX10_isCounted_13 rfl ?_
      refine wp_get G 0 cOk9 fX10_7 dX10_isCounted_14 h64 rfl ?_
      refine wp_iload_n G 1 dX10_isCounted_17 rfl ?_
      refine wp_iald (j := j) G dX10_isCounted_18 h65 rfl (by omega) (by decide) ?_
      have rrq3 := hO.l j (by omega)
      refine wp_iload_n G 2 dX10_isCounted_19 rfl ?_
      refine wp_icmp_ne G dX10_isCounted_20 (by omega) (by omega) (fun kq4 => ?_) (fun kq4 => ?_)
      · skip
        refine wp_iconst G dX10_isCounted_37 ?_
        exact wp_zreturn G (by omega) hr dX10_isCounted_38 ⟨by first | rw [bt_1 (by unfold cnd; omega)] | rw [bt_0 (by unfold cnd; omega)], rfl, by rfl⟩
      · skip
        refine wp_aload_n G 0 dX10_isCounted_23 rfl ?_
        refine wp_get G 5 cOk9 fX10_25 dX10_isCounted_24 h64 rfl ?_
        refine wp_iload_n G 1 dX10_isCounted_27 rfl ?_
        refine wp_iald (j := j) G dX10_isCounted_28 h70 rfl (by omega) (by decide) ?_
        have rrq4 := hO.t j (by omega)
        refine wp_iload_n G 3 dX10_isCounted_29 rfl ?_
        refine wp_icmp_gt G dX10_isCounted_30 (by omega) (by omega) (fun kq5 => ?_) (fun kq5 => ?_)
        · skip
          refine wp_iconst G dX10_isCounted_37 ?_
          exact wp_zreturn G (by omega) hr dX10_isCounted_38 ⟨by first | rw [bt_1 (by unfold cnd; omega)] | rw [bt_0 (by unfold cnd; omega)], rfl, by rfl⟩
        · skip
          refine wp_iconst G dX10_isCounted_33 ?_
          refine wp_goto G dX10_isCounted_34 ?_
          exact wp_zreturn G (by omega) hr dX10_isCounted_38 ⟨by first | rw [bt_1 (by unfold cnd; omega)] | rw [bt_0 (by unfold cnd; omega)], rfl, by rfl⟩

set_option maxRecDepth 100000 in
set_option maxHeartbeats 4000000 in
theorem t_X10_countOf {nx : Nat} {h : Nat → Option PC} {n : Nat} {q : Nat → Nat → Int} {o : Nat → Nat} {fc : Nat} {hn : Nat} {ln : Nat} {ma : Int} {mb : Int} {st : Nat → Int} {a : Int} {b : Int} {m : Int} (hQ : isM h n q o fc hn ln ma mb st) (hO : okQ n q o) (hN : okN st) (ha : -1 ≤ a ∧ a ≤ 2) (ri_b : r32 b) (ri_m : r32 m) : Cx 1 (0, 0) yX10_countOf cX10_countOf 6 (some .int) [zR 64, zI a, zI b, zI m] nx h (Rt (zI (cntZ (fun j => cnd q a b j ∧ m ≤ q 4 j) n)) nx []) := by
  refine cx_of pnX10_countOf (Nat.le_of_ble_eq_true rfl) ?_
  intro K G hr hnm hR
  obtain ⟨h64, h65, h66, h67, h68, h69, h70, h71, h72, h73⟩ := id hQ
  have hn40 := hO.1
  obtain ⟨hN0, hN1, hN2, hN3, hN4⟩ := id hN
  show Wp K 6 (Mx K h (Rt (zI (cntZ (fun j => cnd q a b j ∧ m ≤ q 4 j) n)) nx []) (0, 0)) (0, 0) 0 [(0, zR 64), (1, zI a), (2, zI b), (3, zI m)] [] (nx, h, [])
  refine wp_iconst G dX10_countOf_0 ?_
  refine wp_istore (lv' := [(4, zI 0), (0, zR 64), (1, zI a), (2, zI b), (3, zI m)]) G dX10_countOf_1 (by decide) rfl ?_
  refine wp_iconst G dX10_countOf_3 ?_
  refine wp_istore (lv' := [(5, zI 0), (4, zI 0), (0, zR 64), (1, zI a), (2, zI b), (3, zI m)]) G dX10_countOf_4 (by decide) rfl ?_
  refine wp_lv [2, 3, 4, 5, 1, 0] rfl ?_
  suffices lp6 : ∀ (fu : Nat) (k : Nat) (v4 : Int) (v5 : Int), n - k < fu → (v4 = cntZ (fun j => cnd q a b j ∧ m ≤ q 4 j) k) → (v5 = ((k : Nat) : Int)) → (k ≤ n) → Wp K 6 (Mx K h (Rt (zI (cntZ (fun j => cnd q a b j ∧ m ≤ q 4 j) n)) nx []) (0, 0)) (0, 0) 6 [(0, zR 64), (1, zI a), (2, zI b), (3, zI m), (4, zI v4), (5, zI v5)] [] (nx, h, []) from lp6 _ 0 0 0 (Nat.lt_succ_self _) (by rfl) (by omega) (by omega)
  intro fu
  induction fu with
  | zero => intro k v4 v5 hm; exact absurd hm (Nat.not_lt_zero _)
  | succ fu ih6 =>
    intro k v4 v5 hm6 e4 e5 hi0
    subst e4
    subst e5
    refine wp_iload G 5 dX10_countOf_6 rfl ?_
    refine wp_aload_n G 0 dX10_countOf_8 rfl ?_
    refine wp_get G 7 cOk9 fX10_96 dX10_countOf_9 h64 rfl ?_
    refine wp_icmp_ge G dX10_countOf_12 (by omega) (by omega) (fun kq1 => ?_) (fun kq1 => ?_)
    · skip
      refine wp_iload G 4 dX10_countOf_53 rfl ?_
      exact wp_ireturn G hr dX10_countOf_55 ⟨by rw [show k = n by omega], rfl, by rfl⟩
    · skip
      refine wp_iload G 4 dX10_countOf_15 rfl ?_
      refine wp_aload_n G 0 dX10_countOf_17 rfl ?_
      refine wp_iload G 5 dX10_countOf_18 rfl ?_
      refine wp_iload_n G 1 dX10_countOf_20 rfl ?_
      refine wp_iload_n G 2 dX10_countOf_21 rfl ?_
      refine wp_cVE (b := 64) (ci := 9) (as := [zI ((k : Nat) : Int), zI a, zI b]) (rest := [zI (cntZ (fun j => cnd q a b j ∧ m ≤ q 4 j) k)]) (hp2 := (nx, h, [])) G mX10_isCounted lX10_167 iX10_isCounted eX10_isCounted ⟨_, rfl, rfl⟩ dX10_countOf_22 h64 rfl rfl (Nat.le_of_ble_eq_true rfl) (rmx_ok hR (by decide) (by decide) (by decide) (by decide)) (t_X10_isCounted (nx := nx) (j := k) (a := a) (b := b) hQ hO hN (by omega) ha ri_b) rfl ?_
      refine wp_ifeq_bt G dX10_countOf_25 (fun kq2 => ?_) (fun kq2 => ?_)
      · skip
        refine wp_iconst G dX10_countOf_43 ?_
        refine wp_iadd G dX10_countOf_44 ?_
        refine wp_istore (lv' := [(4, zI (cntZ (fun j => cnd q a b j ∧ m ≤ q 4 j) k + 0)), (0, zR 64), (1, zI a), (2, zI b), (3, zI m), (5, zI ((k : Nat) : Int))]) G dX10_countOf_45 (by decide) rfl ?_
        refine wp_iinc (lv' := [(5, zI (((k : Nat) : Int) + 1)), (4, zI (cntZ (fun j => cnd q a b j ∧ m ≤ q 4 j) k + 0)), (0, zR 64), (1, zI a), (2, zI b), (3, zI m)]) G 5 dX10_countOf_47 rfl (by decide) rfl ?_
        refine wp_goto G dX10_countOf_50 ?_
        refine wp_lv [2, 3, 4, 5, 1, 0] rfl ?_
        exact ih6 (k + 1) (cntZ (fun j => cnd q a b j ∧ m ≤ q 4 j) k + 0) (((k : Nat) : Int) + 1) (by omega) (by first | (rw [cntZ_y ⟨by assumption, by omega⟩]; done) | (rw [cntZ_n (by intro z; first | exact absurd z.1 (by assumption) | (have := z.2; omega))]; omega)) (by omega) (by omega)
      · skip
        refine wp_aload_n G 0 dX10_countOf_28 rfl ?_
        refine wp_get G 4 cOk9 fX10_22 dX10_countOf_29 h64 rfl ?_
        refine wp_iload G 5 dX10_countOf_32 rfl ?_
        refine wp_iald (j := k) G dX10_countOf_34 h69 rfl (by omega) (by decide) ?_
        have rrq1 := hO.g k (by omega)
        refine wp_iload_n G 3 dX10_countOf_35 rfl ?_
        refine wp_icmp_lt G dX10_countOf_36 (by omega) (by omega) (fun kq3 => ?_) (fun kq3 => ?_)
        · skip
          refine wp_iconst G dX10_countOf_43 ?_
          refine wp_iadd G dX10_countOf_44 ?_
          refine wp_istore (lv' := [(4, zI (cntZ (fun j => cnd q a b j ∧ m ≤ q 4 j) k + 0)), (0, zR 64), (1, zI a), (2, zI b), (3, zI m), (5, zI ((k : Nat) : Int))]) G dX10_countOf_45 (by decide) rfl ?_
          refine wp_iinc (lv' := [(5, zI (((k : Nat) : Int) + 1)), (4, zI (cntZ (fun j => cnd q a b j ∧ m ≤ q 4 j) k + 0)), (0, zR 64), (1, zI a), (2, zI b), (3, zI m)]) G 5 dX10_countOf_47 rfl (by decide) rfl ?_
          refine wp_goto G dX10_countOf_50 ?_
          refine wp_lv [2, 3, 4, 5, 1, 0] rfl ?_
          exact ih6 (k + 1) (cntZ (fun j => cnd q a b j ∧ m ≤ q 4 j) k + 0) (((k : Nat) : Int) + 1) (by omega) (by first | (rw [cntZ_y ⟨by assumption, by omega⟩]; done) | (rw [cntZ_n (by intro z; first | exact absurd z.1 (by assumption) | (have := z.2; omega))]; omega)) (by omega) (by omega)
        · skip
          refine wp_iconst G dX10_countOf_39 ?_
          refine wp_goto G dX10_countOf_40 ?_
          refine wp_iadd G dX10_countOf_44 ?_
          refine wp_istore (lv' := [(4, zI (cntZ (fun j => cnd q a b j ∧ m ≤ q 4 j) k + 1)), (0, zR 64), (1, zI a), (2, zI b), (3, zI m), (5, zI ((k : Nat) : Int))]) G dX10_countOf_45 (by decide) rfl ?_
          refine wp_iinc (lv' := [(5, zI (((k : Nat) : Int) + 1)), (4, zI (cntZ (fun j => cnd q a b j ∧ m ≤ q 4 j) k + 1)), (0, zR 64), (1, zI a), (2, zI b), (3, zI m)]) G 5 dX10_countOf_47 rfl (by decide) rfl ?_
          refine wp_goto G dX10_countOf_50 ?_
          refine wp_lv [2, 3, 4, 5, 1, 0] rfl ?_
          exact ih6 (k + 1) (cntZ (fun j => cnd q a b j ∧ m ≤ q 4 j) k + 1) (((k : Nat) : Int) + 1) (by omega) (by first | (rw [cntZ_y ⟨by assumption, by omega⟩]; done) | (rw [cntZ_n (by intro z; first | exact absurd z.1 (by assumption) | (have := z.2; omega))]; omega)) (by omega) (by omega)

set_option maxRecDepth 100000 in
set_option maxHeartbeats 4000000 in
theorem t_X10_choose {nx : Nat} {h : Nat → Option PC} {n : Nat} {k : Int} (hn : n ≤ 40) (ri_k : r32 k) : Cx 1 (0, 0) yX10_choose cX10_choose 5 (some .long) [zI ((n : Nat) : Int), zI k] nx h (Rt (zJ (chI n k)) nx []) := by
  refine cx_of pnX10_choose (Nat.le_of_ble_eq_true rfl) ?_
  intro K G hr hnm hR
  show Wp K 5 (Mx K h (Rt (zJ (chI n k)) nx []) (0, 0)) (0, 0) 0 [(0, zI ((n : Nat) : Int)), (1, zI k)] [] (nx, h, [])
  refine wp_iload_n G 1 dX10_choose_0 rfl ?_
  refine wp_i2l G (by omega) dX10_choose_1 ?_
  refine wp_lconst (z := 0) G dX10_choose_2 (by decide) ?_
  refine wp_iload_n G 0 dX10_choose_3 rfl ?_
  refine wp_i2l G (by omega) dX10_choose_4 ?_
  refine wp_cSE (as := [zJ k, zJ 0, zJ ((n : Nat) : Int)]) (rest := []) (hp2 := (nx, h, [])) G mX10_in lX10_100 sX10_in dX10_choose_5 rfl rfl (Nat.le_of_ble_eq_true rfl) (rmx_ok hR (by decide) (by decide) (by decide) (by decide)) (t_X10_in (nx := nx) (v := k) (lo := 0) (hi := ((n : Nat) : Int)) (by omega) (by omega) (by omega)) rfl ?_
  refine wp_ifne_bt G dX10_choose_8 (fun kq1 => ?_) (fun kq1 => ?_)
  · skip
    obtain ⟨kk, e_kk⟩ := Int.eq_ofNat_of_zero_le (show 0 ≤ k from (by omega))
    subst e_kk
    refine wp_lconst (z := 1) G dX10_choose_13 (by decide) ?_
    refine wp_lstore_n (lv' := [(2, zJ 1), (0, zI ((n : Nat) : Int)), (1, zI ((kk : Nat) : Int))]) G dX10_choose_14 (by decide) rfl ?_
    refine wp_iconst G dX10_choose_15 ?_
    refine wp_istore (lv' := [(4, zI 1), (2, zJ 1), (0, zI ((n : Nat) : Int)), (1, zI ((kk : Nat) : Int))]) G dX10_choose_16 (by decide) rfl ?_
    refine wp_lv [2, 3, 1, 0] rfl ?_
    suffices lp18 : ∀ (fu : Nat) (i : Nat) (v2 : Int) (v4 : Int), kk - i < fu → (v2 = ((chL n kk i : Nat) : Int)) → (v4 = ((i + 1 : Nat) : Int)) → (i ≤ kk) → Wp K 5 (Mx K h (Rt (zJ (chI n ((kk : Nat) : Int))) nx []) (0, 0)) (0, 0) 18 [(0, zI ((n : Nat) : Int)), (1, zI ((kk : Nat) : Int)), (2, zJ v2), (4, zI v4)] [] (nx, h, []) from lp18 _ 0 1 1 (Nat.lt_succ_self _) (by rfl) (by omega) (by omega)
    intro fu
    induction fu with
    | zero => intro i v2 v4 hm; exact absurd hm (Nat.not_lt_zero _)
    | succ fu ih18 =>
      intro i v2 v4 hm18 e2 e4 hi0
      subst e2
      subst e4
      refine wp_iload G 3 dX10_choose_18 rfl ?_
      refine wp_iload_n G 1 dX10_choose_20 rfl ?_
      refine wp_icmp_gt G dX10_choose_21 (by omega) (by omega) (fun kq2 => ?_) (fun kq2 => ?_)
      · skip
        refine wp_lload_n G 2 dX10_choose_44 rfl ?_
        exact wp_lreturn G hr dX10_choose_45 ⟨by rw [chI_in (by omega), show i = kk by omega], rfl, by rfl⟩
      · skip
        refine wp_lload_n G 2 dX10_choose_24 rfl ?_
        refine wp_iload_n G 0 dX10_choose_25 rfl ?_
        refine wp_iload_n G 1 dX10_choose_26 rfl ?_
        refine wp_isub G dX10_choose_27 ?_
        refine wp_iload G 3 dX10_choose_28 rfl ?_
        refine wp_iadd G dX10_choose_30 ?_
        refine wp_i2l G (by omega) dX10_choose_31 ?_
        refine wp_lmul G dX10_choose_32 ?_
        refine wp_iload G 3 dX10_choose_33 rfl ?_
        refine wp_i2l G (by omega) dX10_choose_35 ?_
        have hb34 := chL_r (n := n) (k := kk) (i := i) hn (by omega) (by omega)
        refine wp_ldiv G hb34.1 (by omega) hb34.2 (by omega) dX10_choose_36 ?_
        refine wp_lstore_n (lv' := [(2, zJ ((((chL n kk i : Nat) : Int) * ((((n : Nat) : Int) - ((kk : Nat) : Int)) + ((i + 1 : Nat) : Int))) / ((i + 1 : Nat) : Int))), (0, zI ((n : Nat) : Int)), (1, zI ((kk : Nat) : Int)), (4, zI ((i + 1 : Nat) : Int))]) G dX10_choose_37 (by decide) rfl ?_
        refine wp_iinc (lv' := [(4, zI (((i + 1 : Nat) : Int) + 1)), (2, zJ ((((chL n kk i : Nat) : Int) * ((((n : Nat) : Int) - ((kk : Nat) : Int)) + ((i + 1 : Nat) : Int))) / ((i + 1 : Nat) : Int))), (0, zI ((n : Nat) : Int)), (1, zI ((kk : Nat) : Int))]) G 3 dX10_choose_38 rfl (by decide) rfl ?_
        refine wp_goto G dX10_choose_41 ?_
        refine wp_lv [2, 3, 1, 0] rfl ?_
        exact ih18 (i + 1) ((((chL n kk i : Nat) : Int) * ((((n : Nat) : Int) - ((kk : Nat) : Int)) + ((i + 1 : Nat) : Int))) / ((i + 1 : Nat) : Int)) (((i + 1 : Nat) : Int) + 1) (by omega) (by exact chL_s (by omega)) (by omega) (by omega)
  · skip
    refine wp_lconst (z := 0) G dX10_choose_11 (by decide) ?_
    exact wp_lreturn G hr dX10_choose_12 ⟨by rw [chI_out (by omega)], rfl, by rfl⟩

set_option maxRecDepth 100000 in
set_option maxHeartbeats 4000000 in
theorem t_X10_power {nx : Nat} {h : Nat → Option PC} {b : Int} {k : Nat} (hk : k ≤ 100) : Cx 0 (0, 0) yX10_power cX10_power 6 (some .long) [zJ b, zI ((k : Nat) : Int)] nx h (Rt (zJ (b ^ k)) nx []) := by
  refine cx_of pnX10_power (Nat.le_of_ble_eq_true rfl) ?_
  intro K G hr hnm hR
  show Wp K 6 (Mx K h (Rt (zJ (b ^ k)) nx []) (0, 0)) (0, 0) 0 [(0, zJ b), (2, zI ((k : Nat) : Int))] [] (nx, h, [])
  refine wp_lconst (z := 1) G dX10_power_0 (by decide) ?_
  refine wp_lstore_n (lv' := [(3, zJ 1), (0, zJ b), (2, zI ((k : Nat) : Int))]) G dX10_power_1 (by decide) rfl ?_
  refine wp_iconst G dX10_power_2 ?_
  refine wp_istore (lv' := [(5, zI 0), (3, zJ 1), (0, zJ b), (2, zI ((k : Nat) : Int))]) G dX10_power_3 (by decide) rfl ?_
  refine wp_lv [2, 3, 1, 0] rfl ?_
  suffices lp5 : ∀ (fu : Nat) (i : Nat) (v3 : Int) (v5 : Int), k - i < fu → (v3 = b ^ i) → (v5 = ((i : Nat) : Int)) → (i ≤ k) → Wp K 6 (Mx K h (Rt (zJ (b ^ k)) nx []) (0, 0)) (0, 0) 5 [(0, zJ b), (2, zI ((k : Nat) : Int)), (3, zJ v3), (5, zI v5)] [] (nx, h, []) from lp5 _ 0 1 0 (Nat.lt_succ_self _) (by exact (Int.pow_zero b).symm) (by omega) (by omega)
  intro fu
  induction fu with
  | zero => intro i v3 v5 hm; exact absurd hm (Nat.not_lt_zero _)
  | succ fu ih5 =>
    intro i v3 v5 hm5 e3 e5 hi0
    subst e3
    subst e5
    refine wp_iload G 3 dX10_power_5 rfl ?_
    refine wp_iload_n G 1 dX10_power_7 rfl ?_
    refine wp_icmp_ge G dX10_power_8 (by omega) (by omega) (fun kq1 => ?_) (fun kq1 => ?_)
    · skip
      refine wp_lload_n G 2 dX10_power_21 rfl ?_
      exact wp_lreturn G hr dX10_power_22 ⟨by rw [show i = k by omega], rfl, by rfl⟩
    · skip
      refine wp_lload_n G 2 dX10_power_11 rfl ?_
      refine wp_lload_n G 0 dX10_power_12 rfl ?_
      refine wp_lmul G dX10_power_13 ?_
      refine wp_lstore_n (lv' := [(3, zJ (b ^ i * b)), (0, zJ b), (2, zI ((k : Nat) : Int)), (5, zI ((i : Nat) : Int))]) G dX10_power_14 (by decide) rfl ?_
      refine wp_iinc (lv' := [(5, zI (((i : Nat) : Int) + 1)), (3, zJ (b ^ i * b)), (0, zJ b), (2, zI ((k : Nat) : Int))]) G 3 dX10_power_15 rfl (by decide) rfl ?_
      refine wp_goto G dX10_power_18 ?_
      refine wp_lv [2, 3, 1, 0] rfl ?_
      exact ih5 (i + 1) (b ^ i * b) (((i : Nat) : Int) + 1) (by omega) (by exact (pow_step b i).symm) (by omega) (by omega)

set_option maxRecDepth 100000 in
set_option maxHeartbeats 4000000 in
theorem t_X10_dayStep {nx : Nat} {h : Nat → Option PC} {d : Int} (ri_d : r32 d) : Cx 0 (0, 0) yX10_dayStep cX10_dayStep 3 (some .int) [zI d] nx h (Rt (zI ((fsN 7 d : Nat) : Int)) nx []) := by
  refine cx_of pnX10_dayStep (Nat.le_of_ble_eq_true rfl) ?_
  intro K G hr hnm hR
  show Wp K 3 (Mx K h (Rt (zI ((fsN 7 d : Nat) : Int)) nx []) (0, 0)) (0, 0) 0 [(0, zI d)] [] (nx, h, [])
  refine wp_iconst G dX10_dayStep_0 ?_
  refine wp_istore_n (lv' := [(1, zI 0), (0, zI d)]) G dX10_dayStep_1 (by decide) rfl ?_
  refine wp_iload_n G 1 dX10_dayStep_2 rfl ?_
  refine wp_istore_n (lv' := [(2, zI d), (1, zI 0), (0, zI d)]) G dX10_dayStep_3 (by decide) rfl ?_
  refine wp_lv [2, 1, 0] rfl ?_
  suffices lp4 : ∀ (fu : Nat) (s : Nat) (v1 : Int) (v2 : Int), 7 - s < fu → (v1 = ((s : Nat) : Int)) → (s ≤ 7) → (r32 v2) → (s + fsN (7 - s) v2 = fsN 7 d) → Wp K 3 (Mx K h (Rt (zI ((fsN 7 d : Nat) : Int)) nx []) (0, 0)) (0, 0) 4 [(0, zI d), (1, zI v1), (2, zI v2)] [] (nx, h, []) from lp4 _ 0 0 d (Nat.lt_succ_self _) (by omega) (by omega) (by omega) (by simp)
  intro fu
  induction fu with
  | zero => intro s v1 v2 hm; exact absurd hm (Nat.not_lt_zero _)
  | succ fu ih4 =>
    intro s v1 v2 hm4 e1 hi0 hi1 hf
    subst e1
    refine wp_iload_n G 2 dX10_dayStep_4 rfl ?_
    refine wp_if_le G dX10_dayStep_5 (by omega) (fun kq1 => ?_) (fun kq1 => ?_)
    · skip
      refine wp_iload_n G 1 dX10_dayStep_24 rfl ?_
      exact wp_ireturn G hr dX10_dayStep_25 ⟨by rw [← hf, fsN_n (s := s) (l := v2) (by omega)]; rfl, rfl, by rfl⟩
    · skip
      refine wp_iload_n G 1 dX10_dayStep_8 rfl ?_
      refine wp_bipush G dX10_dayStep_9 (by decide) ?_
      refine wp_icmp_ge G dX10_dayStep_11 (by omega) (by omega) (fun kq2 => ?_) (fun kq2 => ?_)
      · skip
        refine wp_iload_n G 1 dX10_dayStep_24 rfl ?_
        exact wp_ireturn G hr dX10_dayStep_25 ⟨by rw [← hf, fsN_n (s := s) (l := v2) (by omega)]; rfl, rfl, by rfl⟩
      · skip
        refine wp_iinc (lv' := [(1, zI (((s : Nat) : Int) + 1)), (0, zI d), (2, zI v2)]) G 1 dX10_dayStep_14 rfl (by decide) rfl ?_
        refine wp_iload_n G 2 dX10_dayStep_17 rfl ?_
        refine wp_iconst G dX10_dayStep_18 ?_
        refine wp_idiv G (by omega) (by omega) (by omega) (by omega) dX10_dayStep_19 ?_
        refine wp_istore_n (lv' := [(2, zI (v2 / 2)), (1, zI (((s : Nat) : Int) + 1)), (0, zI d)]) G dX10_dayStep_20 (by decide) rfl ?_
        refine wp_goto G dX10_dayStep_21 ?_
        refine wp_lv [2, 1, 0] rfl ?_
        exact ih4 (s + 1) (((s : Nat) : Int) + 1) (v2 / 2) (by omega) (by omega) (by omega) (by omega) (by have hfy := fsN_y (s := s) (l := v2) (by omega) (by omega); omega)

set_option maxRecDepth 100000 in
set_option maxHeartbeats 4000000 in
theorem t_X10_weigh {nx : Nat} {h : Nat → Option PC} {n : Nat} {q : Nat → Nat → Int} {o : Nat → Nat} {fc : Nat} {hn : Nat} {ln : Nat} {ma : Int} {mb : Int} {st : Nat → Int} {pr : Nat → Int} {fa : Nat → Int} {sp : Nat → Int} {i : Nat} {x : Int} {y : Int} {d : Int} (hQ : isM h n q o fc hn ln ma mb st) (hO : okQ n q o) (hN : okN st) (hMs : isMs h pr fa sp) (hS : okS pr fa sp) (hi : i < n) (hx : 0 ≤ x ∧ x ≤ 15) (hy : 0 ≤ y ∧ y ≤ 15) (hd : 0 ≤ d ∧ d ≤ 3999) : Cx 2 (0, 0) yX10_weigh cX10_weigh 6 (some .int) [zR 64, zI ((i : Nat) : Int), zI x, zI y, zI d] nx h (Rt (zI (wgt pr fa sp q i x y d)) nx []) := by
  refine cx_of pnX10_weigh (Nat.le_of_ble_eq_true rfl) ?_
  intro K G hr hnm hR
  obtain ⟨h64, h65, h66, h67, h68, h69, h70, h71, h72, h73⟩ := id hQ
  have hn40 := hO.1
  obtain ⟨hN0, hN1, hN2, hN3, hN4⟩ := id hN
  obtain ⟨h77, h78, h79⟩ := id hMs
  have hxi := hO.x i hi
  have hyi := hO.y i hi
  have hfar := farZ_b hxi hyi hx hy
  have hdi := hO.d i hi
  have hgi := hO.g i hi
  have hfs := fsN_le 7 (d - q 1 i)
  have hfc2 := farZ_comm (q 2 i) (q 3 i) x y
  show Wp K 6 (Mx K h (Rt (zI (wgt pr fa sp q i x y d)) nx []) (0, 0)) (0, 0) 0 [(0, zR 64), (1, zI ((i : Nat) : Int)), (2, zI x), (3, zI y), (4, zI d)] [] (nx, h, [])
  refine wp_aload_n G 0 dX10_weigh_0 rfl ?_
  refine wp_get G 2 cOk9 fX10_16 dX10_weigh_1 h64 rfl ?_
  refine wp_iload_n G 1 dX10_weigh_4 rfl ?_
  refine wp_iald (j := i) G dX10_weigh_5 h67 rfl (by omega) (by decide) ?_
  have rrq1 := hO.x i (by omega)
  refine wp_aload_n G 0 dX10_weigh_6 rfl ?_
  refine wp_get G 3 cOk9 fX10_19 dX10_weigh_7 h64 rfl ?_
  refine wp_iload_n G 1 dX10_weigh_10 rfl ?_
  refine wp_iald (j := i) G dX10_weigh_11 h68 rfl (by omega) (by decide) ?_
  have rrq2 := hO.y i (by omega)
  refine wp_iload_n G 2 dX10_weigh_12 rfl ?_
  refine wp_iload_n G 3 dX10_weigh_13 rfl ?_
  refine wp_cSE (as := [zI ((q 2) i), zI ((q 3) i), zI x, zI y]) (rest := []) (hp2 := (nx, h, [])) G mX10_far lX10_142 sX10_far dX10_weigh_14 rfl rfl (Nat.le_of_ble_eq_true rfl) (rmx_ok hR (by decide) (by decide) (by decide) (by decide)) (t_X10_far (nx := nx) (a := ((q 2) i)) (b := ((q 3) i)) (c := x) (e := y) hxi hyi hx hy) rfl ?_
  refine wp_istore (lv' := [(5, zI (farZ ((q 2) i) ((q 3) i) x y)), (0, zR 64), (1, zI ((i : Nat) : Int)), (2, zI x), (3, zI y), (4, zI d)]) G dX10_weigh_17 (by decide) rfl ?_
  refine wp_aload_n G 1 dX10_weigh_19 rfl ?_
  refine wp_get G 15 cOk9 fX10_48 dX10_weigh_20 h64 rfl ?_
  refine wp_aload_n G 1 dX10_weigh_23 rfl ?_
  refine wp_get G 4 cOk9 fX10_22 dX10_weigh_24 h64 rfl ?_
  refine wp_iload_n G 2 dX10_weigh_27 rfl ?_
  refine wp_iald (j := i) G dX10_weigh_28 h69 rfl (by omega) (by decide) ?_
  have rrq3 := hO.g i (by omega)
  refine wp_bipush G dX10_weigh_29 (by decide) ?_
  refine wp_idiv G (by omega) (by omega) (by omega) (by omega) dX10_weigh_31 ?_
  refine wp_iald (j := ((((q 4) i) / 10)).toNat) G dX10_weigh_32 h77 (by omega) (by omega) (by decide) ?_
  have rrq4 := hS.1 (((((q 4) i) / 10)).toNat) (by omega)
  refine wp_aload_n G 1 dX10_weigh_33 rfl ?_
  refine wp_get G 16 cOk9 fX10_51 dX10_weigh_34 h64 rfl ?_
  refine wp_iload G 5 dX10_weigh_37 rfl ?_
  refine wp_aload_n G 1 dX10_weigh_39 rfl ?_
  refine wp_get G 1 cOk9 fX10_13 dX10_weigh_40 h64 rfl ?_
  refine wp_iload_n G 2 dX10_weigh_43 rfl ?_
  refine wp_iald (j := i) G dX10_weigh_44 h66 rfl (by omega) (by decide) ?_
  have rrq5 := hO.d i (by omega)
  refine wp_isub G dX10_weigh_45 ?_
  refine wp_cSE (as := [zI (d - ((q 1) i))]) (rest := [zR 78, zI (pr (((((q 4) i) / 10)).toNat))]) (hp2 := (nx, h, [])) G mX10_dayStep lX10_208 sX10_dayStep dX10_weigh_46 rfl rfl (Nat.le_of_ble_eq_true rfl) (rmx_ok hR (by decide) (by decide) (by decide) (by decide)) (t_X10_dayStep (nx := nx) (d := (d - ((q 1) i))) (by omega)) rfl ?_
  refine wp_iald (j := fsN 7 (d - ((q 1) i))) G dX10_weigh_49 h78 rfl (by omega) (by decide) ?_
  have rrq6 := hS.2.1 (fsN 7 (d - ((q 1) i))) (by omega)
  refine wp_imul G dX10_weigh_50 ?_
  refine wp_aload_n G 1 dX10_weigh_51 rfl ?_
  refine wp_get G 17 cOk9 fX10_54 dX10_weigh_52 h64 rfl ?_
  refine wp_iload G 0 dX10_weigh_55 rfl ?_
  refine wp_bipush G dX10_weigh_57 (by decide) ?_
  refine wp_icmp_le G dX10_weigh_59 (by omega) (by omega) (fun kq1 => ?_) (fun kq1 => ?_)
  · skip
    refine wp_iload G 0 dX10_weigh_67 rfl ?_
    refine wp_iald (j := (farZ ((q 2) i) ((q 3) i) x y).toNat) G dX10_weigh_69 h79 (by omega) (by omega) (by decide) ?_
    have rrq7 := hS.2.2 ((farZ ((q 2) i) ((q 3) i) x y).toNat) (by omega)
    refine wp_imul G dX10_weigh_70 ?_
    exact wp_ireturn G hr dX10_weigh_71 ⟨by unfold wgt; rw [← hfc2]; first | rw [Int.min_eq_left (by omega)]; rfl | rw [Int.min_eq_right (by omega)], rfl, by rfl⟩
  · skip
    refine wp_bipush G dX10_weigh_62 (by decide) ?_
    refine wp_goto G dX10_weigh_64 ?_
    refine wp_iald (j := 7) G dX10_weigh_69 h79 rfl (by decide) (by decide) ?_
    have rrq8 := hS.2.2 7 (by decide)
    refine wp_imul G dX10_weigh_70 ?_
    exact wp_ireturn G hr dX10_weigh_71 ⟨by unfold wgt; rw [← hfc2]; first | rw [Int.min_eq_left (by omega)]; rfl | rw [Int.min_eq_right (by omega)], rfl, by rfl⟩

set_option maxRecDepth 100000 in
set_option maxHeartbeats 4000000 in
theorem t_X10_weightOf {nx : Nat} {h : Nat → Option PC} {n : Nat} {q : Nat → Nat → Int} {o : Nat → Nat} {fc : Nat} {hn : Nat} {ln : Nat} {ma : Int} {mb : Int} {st : Nat → Int} {pr : Nat → Int} {fa : Nat → Int} {sp : Nat → Int} {j : Nat} {i : Nat} (hQ : isM h n q o fc hn ln ma mb st) (hO : okQ n q o) (hN : okN st) (hMs : isMs h pr fa sp) (hS : okS pr fa sp) (hj : j < n) (hi : i < n) : Cx 3 (0, 0) yX10_weightOf cX10_weightOf 3 (some .int) [zR 64, zI ((j : Nat) : Int), zI ((i : Nat) : Int)] nx h (Rt (zI (wgt pr fa sp q i (q 2 j) (q 3 j) (q 1 j))) nx []) := by
  refine cx_of pnX10_weightOf (Nat.le_of_ble_eq_true rfl) ?_
  intro K G hr hnm hR
  obtain ⟨h64, h65, h66, h67, h68, h69, h70, h71, h72, h73⟩ := id hQ
  have hn40 := hO.1
  obtain ⟨hN0, hN1, hN2, hN3, hN4⟩ := id hN
  obtain ⟨h77, h78, h79⟩ := id hMs
  have hxj := hO.x j hj
  have hyj := hO.y j hj
  have hdj := hO.d j hj
  show Wp K 3 (Mx K h (Rt (zI (wgt pr fa sp q i (q 2 j) (q 3 j) (q 1 j))) nx []) (0, 0)) (0, 0) 0 [(0, zR 64), (1, zI ((j : Nat) : Int)), (2, zI ((i : Nat) : Int))] [] (nx, h, [])
  refine wp_aload_n G 0 dX10_weightOf_0 rfl ?_
  refine wp_iload_n G 2 dX10_weightOf_1 rfl ?_
  refine wp_aload_n G 0 dX10_weightOf_2 rfl ?_
  refine wp_get G 2 cOk9 fX10_16 dX10_weightOf_3 h64 rfl ?_
  refine wp_iload_n G 1 dX10_weightOf_6 rfl ?_
  refine wp_iald (j := j) G dX10_weightOf_7 h67 rfl (by omega) (by decide) ?_
  have rrq1 := hO.x j (by omega)
  refine wp_aload_n G 0 dX10_weightOf_8 rfl ?_
  refine wp_get G 3 cOk9 fX10_19 dX10_weightOf_9 h64 rfl ?_
  refine wp_iload_n G 1 dX10_weightOf_12 rfl ?_
  refine wp_iald (j := j) G dX10_weightOf_13 h68 rfl (by omega) (by decide) ?_
  have rrq2 := hO.y j (by omega)
  refine wp_aload_n G 0 dX10_weightOf_14 rfl ?_
  refine wp_get G 1 cOk9 fX10_13 dX10_weightOf_15 h64 rfl ?_
  refine wp_iload_n G 1 dX10_weightOf_18 rfl ?_
  refine wp_iald (j := j) G dX10_weightOf_19 h66 rfl (by omega) (by decide) ?_
  have rrq3 := hO.d j (by omega)
  refine wp_cVE (b := 64) (ci := 9) (as := [zI ((i : Nat) : Int), zI ((q 2) j), zI ((q 3) j), zI ((q 1) j)]) (rest := []) (hp2 := (nx, h, [])) G mX10_weigh lX10_211 iX10_weigh eX10_weigh ⟨_, rfl, rfl⟩ dX10_weightOf_20 h64 rfl rfl (Nat.le_of_ble_eq_true rfl) (rmx_ok hR (by decide) (by decide) (by decide) (by decide)) (t_X10_weigh (nx := nx) (i := i) (x := ((q 2) j)) (y := ((q 3) j)) (d := ((q 1) j)) hQ hO hN hMs hS hi hxj hyj hdj) rfl ?_
  exact wp_ireturn G hr dX10_weightOf_23 ⟨by rfl, rfl, by rfl⟩

set_option maxRecDepth 100000 in
set_option maxHeartbeats 4000000 in
theorem t_X10_isAhead {nx : Nat} {h : Nat → Option PC} {n : Nat} {q : Nat → Nat → Int} {o : Nat → Nat} {fc : Nat} {hn : Nat} {ln : Nat} {ma : Int} {mb : Int} {st : Nat → Int} {i : Nat} {j : Nat} (hQ : isM h n q o fc hn ln ma mb st) (hO : okQ n q o) (hN : okN st) (hi : i < n) (hj : j < n) : Cx 0 (0, 0) yX10_isAhead cX10_isAhead 3 (some .boolean) [zR 64, zI ((i : Nat) : Int), zI ((j : Nat) : Int)] nx h (Rt (zI (bt (ahd q i j))) nx []) := by
  refine cx_of pnX10_isAhead (Nat.le_of_ble_eq_true rfl) ?_
  intro K G hr hnm hR
  obtain ⟨h64, h65, h66, h67, h68, h69, h70, h71, h72, h73⟩ := id hQ
  have hn40 := hO.1
  obtain ⟨hN0, hN1, hN2, hN3, hN4⟩ := id hN
  show Wp K 3 (Mx K h (Rt (zI (bt (ahd q i j))) nx []) (0, 0)) (0, 0) 0 [(0, zR 64), (1, zI ((i : Nat) : Int)), (2, zI ((j : Nat) : Int))] [] (nx, h, [])
  refine wp_aload_n G 0 dX10_isAhead_0 rfl ?_
  refine wp_get G 1 cOk9 fX10_13 dX10_isAhead_1 h64 rfl ?_
  refine wp_iload_n G 1 dX10_isAhead_4 rfl ?_
  refine wp_iald (j := i) G dX10_isAhead_5 h66 rfl (by omega) (by decide) ?_
  have rrq1 := hO.d i (by omega)
  refine wp_aload_n G 0 dX10_isAhead_6 rfl ?_
  refine wp_get G 1 cOk9 fX10_13 dX10_isAhead_7 h64 rfl ?_
  refine wp_iload_n G 2 dX10_isAhead_10 rfl ?_
  refine wp_iald (j := j) G dX10_isAhead_11 h66 rfl (by omega) (by decide) ?_
  have rrq2 := hO.d j (by omega)
  refine wp_icmp_lt G dX10_isAhead_12 (by omega) (by omega) (fun kq1 => ?_) (fun kq1 => ?_)
  · skip
    refine wp_iconst G dX10_isAhead_35 ?_
    refine wp_goto G dX10_isAhead_36 ?_
    exact wp_zreturn G (by omega) hr dX10_isAhead_40 ⟨by first | rw [bt_1 (by unfold ahd; omega)] | rw [bt_0 (by unfold ahd; omega)], rfl, by rfl⟩
  · skip
    refine wp_aload_n G 0 dX10_isAhead_15 rfl ?_
    refine wp_get G 1 cOk9 fX10_13 dX10_isAhead_16 h64 rfl ?_
    refine wp_iload_n G 1 dX10_isAhead_19 rfl ?_
    refine wp_iald (j := i) G dX10_isAhead_20 h66 rfl (by omega) (by decide) ?_
    have rrq3 := hO.d i (by omega)
    refine wp_aload_n G 0 dX10_isAhead_21 rfl ?_
    refine wp_get G 1 cOk9 fX10_13 dX10_isAhead_22 h64 rfl ?_
    refine wp_iload_n G 2 dX10_isAhead_25 rfl ?_
    refine wp_iald (j := j) G dX10_isAhead_26 h66 rfl (by omega) (by decide) ?_
    have rrq4 := hO.d j (by omega)
    refine wp_icmp_ne G dX10_isAhead_27 (by omega) (by omega) (fun kq2 => ?_) (fun kq2 => ?_)
    · skip
      refine wp_iconst G dX10_isAhead_39 ?_
      exact wp_zreturn G (by omega) hr dX10_isAhead_40 ⟨by first | rw [bt_1 (by unfold ahd; omega)] | rw [bt_0 (by unfold ahd; omega)], rfl, by rfl⟩
    · skip
      refine wp_iload_n G 1 dX10_isAhead_30 rfl ?_
      refine wp_iload_n G 2 dX10_isAhead_31 rfl ?_
      refine wp_icmp_ge G dX10_isAhead_32 (by omega) (by omega) (fun kq3 => ?_) (fun kq3 => ?_)
      · skip
        refine wp_iconst G dX10_isAhead_39 ?_
        exact wp_zreturn G (by omega) hr dX10_isAhead_40 ⟨by first | rw [bt_1 (by unfold ahd; omega)] | rw [bt_0 (by unfold ahd; omega)], rfl, by rfl⟩
      · skip
        refine wp_iconst G dX10_isAhead_35 ?_
        refine wp_goto G dX10_isAhead_36 ?_
        exact wp_zreturn G (by omega) hr dX10_isAhead_40 ⟨by first | rw [bt_1 (by unfold ahd; omega)] | rw [bt_0 (by unfold ahd; omega)], rfl, by rfl⟩

set_option maxRecDepth 100000 in
set_option maxHeartbeats 4000000 in
theorem t_X10_mayBear {nx : Nat} {h : Nat → Option PC} {n : Nat} {q : Nat → Nat → Int} {o : Nat → Nat} {fc : Nat} {hn : Nat} {ln : Nat} {ma : Int} {mb : Int} {st : Nat → Int} {i : Nat} {j : Nat} {b : Int} (hQ : isM h n q o fc hn ln ma mb st) (hO : okQ n q o) (hN : okN st) (hi : i < n) (hj : j < n) (ri_b : r32 b) : Cx 1 (0, 0) yX10_mayBear cX10_mayBear 4 (some .boolean) [zR 64, zI ((i : Nat) : Int), zI ((j : Nat) : Int), zI b] nx h (Rt (zI (bt (cnd q (-1) b i ∧ ahd q i j))) nx []) := by
  refine cx_of pnX10_mayBear (Nat.le_of_ble_eq_true rfl) ?_
  intro K G hr hnm hR
  obtain ⟨h64, h65, h66, h67, h68, h69, h70, h71, h72, h73⟩ := id hQ
  have hn40 := hO.1
  obtain ⟨hN0, hN1, hN2, hN3, hN4⟩ := id hN
  show Wp K 4 (Mx K h (Rt (zI (bt (cnd q (-1) b i ∧ ahd q i j))) nx []) (0, 0)) (0, 0) 0 [(0, zR 64), (1, zI ((i : Nat) : Int)), (2, zI ((j : Nat) : Int)), (3, zI b)] [] (nx, h, [])
  refine wp_aload_n G 0 dX10_mayBear_0 rfl ?_
  refine wp_iload_n G 1 dX10_mayBear_1 rfl ?_
  refine wp_iconst G dX10_mayBear_2 ?_
  refine wp_iload_n G 3 dX10_mayBear_3 rfl ?_
  refine wp_cVE (b := 64) (ci := 9) (as := [zI ((i : Nat) : Int), zI (-1), zI b]) (rest := []) (hp2 := (nx, h, [])) G mX10_isCounted lX10_167 iX10_isCounted eX10_isCounted ⟨_, rfl, rfl⟩ dX10_mayBear_4 h64 rfl rfl (Nat.le_of_ble_eq_true rfl) (rmx_ok hR (by decide) (by decide) (by decide) (by decide)) (t_X10_isCounted (nx := nx) (j := i) (a := (-1)) (b := b) hQ hO hN hi (by omega) ri_b) rfl ?_
  refine wp_ifeq_bt G dX10_mayBear_7 (fun kq1 => ?_) (fun kq1 => ?_)
  · skip
    refine wp_iconst G dX10_mayBear_23 ?_
    exact wp_zreturn G (by omega) hr dX10_mayBear_24 ⟨by first | rw [bt_1 ⟨by assumption, by assumption⟩] | rw [bt_0 (by intro z; first | exact absurd z.1 (by assumption) | exact absurd z.2 (by assumption))], rfl, by rfl⟩
  · skip
    refine wp_aload_n G 0 dX10_mayBear_10 rfl ?_
    refine wp_iload_n G 1 dX10_mayBear_11 rfl ?_
    refine wp_iload_n G 2 dX10_mayBear_12 rfl ?_
    refine wp_cVE (b := 64) (ci := 9) (as := [zI ((i : Nat) : Int), zI ((j : Nat) : Int)]) (rest := []) (hp2 := (nx, h, [])) G mX10_isAhead lX10_214 iX10_isAhead eX10_isAhead ⟨_, rfl, rfl⟩ dX10_mayBear_13 h64 rfl rfl (Nat.le_of_ble_eq_true rfl) (rmx_ok hR (by decide) (by decide) (by decide) (by decide)) (t_X10_isAhead (nx := nx) (i := i) (j := j) hQ hO hN hi hj) rfl ?_
    refine wp_ifeq_bt G dX10_mayBear_16 (fun kq2 => ?_) (fun kq2 => ?_)
    · skip
      refine wp_iconst G dX10_mayBear_23 ?_
      exact wp_zreturn G (by omega) hr dX10_mayBear_24 ⟨by first | rw [bt_1 ⟨by assumption, by assumption⟩] | rw [bt_0 (by intro z; first | exact absurd z.1 (by assumption) | exact absurd z.2 (by assumption))], rfl, by rfl⟩
    · skip
      refine wp_iconst G dX10_mayBear_19 ?_
      refine wp_goto G dX10_mayBear_20 ?_
      exact wp_zreturn G (by omega) hr dX10_mayBear_24 ⟨by first | rw [bt_1 ⟨by assumption, by assumption⟩] | rw [bt_0 (by intro z; first | exact absurd z.1 (by assumption) | exact absurd z.2 (by assumption))], rfl, by rfl⟩

set_option maxRecDepth 100000 in
set_option maxHeartbeats 4000000 in
theorem t_X10_allWeights {nx : Nat} {h : Nat → Option PC} {n : Nat} {q : Nat → Nat → Int} {o : Nat → Nat} {fc : Nat} {hn : Nat} {ln : Nat} {ma : Int} {mb : Int} {st : Nat → Int} {pr : Nat → Int} {fa : Nat → Int} {sp : Nat → Int} {j : Nat} {b : Int} (hQ : isM h n q o fc hn ln ma mb st) (hO : okQ n q o) (hN : okN st) (hMs : isMs h pr fa sp) (hS : okS pr fa sp) (hj : j < n) (ri_b : r32 b) : Cx 4 (0, 0) yX10_allWeights cX10_allWeights 6 (some .long) [zR 64, zI ((j : Nat) : Int), zI b] nx h (Rt (zJ (st 3 + sumZ (fun i => ifZ (cnd q (-1) b i ∧ ahd q i j) (wgt pr fa sp q i (q 2 j) (q 3 j) (q 1 j)) 0) n)) nx []) := by
  refine cx_of pnX10_allWeights (Nat.le_of_ble_eq_true rfl) ?_
  intro K G hr hnm hR
  obtain ⟨h64, h65, h66, h67, h68, h69, h70, h71, h72, h73⟩ := id hQ
  have hn40 := hO.1
  obtain ⟨hN0, hN1, hN2, hN3, hN4⟩ := id hN
  obtain ⟨h77, h78, h79⟩ := id hMs
  show Wp K 6 (Mx K h (Rt (zJ (st 3 + sumZ (fun i => ifZ (cnd q (-1) b i ∧ ahd q i j) (wgt pr fa sp q i (q 2 j) (q 3 j) (q 1 j)) 0) n)) nx []) (0, 0)) (0, 0) 0 [(0, zR 64), (1, zI ((j : Nat) : Int)), (2, zI b)] [] (nx, h, [])
  refine wp_aload_n G 0 dX10_allWeights_0 rfl ?_
  refine wp_get G 8 cOk9 fX10_32 dX10_allWeights_1 h64 rfl ?_
  refine wp_iconst G dX10_allWeights_4 ?_
  refine wp_iald (j := 3) G dX10_allWeights_5 h72 rfl (by decide) (by decide) ?_
  have rrq1 := hN.r 3 (by decide)
  refine wp_i2l G (by omega) dX10_allWeights_6 ?_
  refine wp_lstore_n (lv' := [(3, zJ (st 3)), (0, zR 64), (1, zI ((j : Nat) : Int)), (2, zI b)]) G dX10_allWeights_7 (by decide) rfl ?_
  refine wp_iconst G dX10_allWeights_8 ?_
  refine wp_istore (lv' := [(5, zI 0), (3, zJ (st 3)), (0, zR 64), (1, zI ((j : Nat) : Int)), (2, zI b)]) G dX10_allWeights_9 (by decide) rfl ?_
  refine wp_lv [2, 3, 4, 1, 0] rfl ?_
  suffices lp11 : ∀ (fu : Nat) (k : Nat) (v3 : Int) (v5 : Int), n - k < fu → (v3 = (st 3 + sumZ (fun i => ifZ (cnd q (-1) b i ∧ ahd q i j) (wgt pr fa sp q i (q 2 j) (q 3 j) (q 1 j)) 0) k)) → (v5 = ((k : Nat) : Int)) → (k ≤ n) → Wp K 6 (Mx K h (Rt (zJ (st 3 + sumZ (fun i => ifZ (cnd q (-1) b i ∧ ahd q i j) (wgt pr fa sp q i (q 2 j) (q 3 j) (q 1 j)) 0) n)) nx []) (0, 0)) (0, 0) 11 [(0, zR 64), (1, zI ((j : Nat) : Int)), (2, zI b), (3, zJ v3), (5, zI v5)] [] (nx, h, []) from lp11 _ 0 (st 3) 0 (Nat.lt_succ_self _) (by rw [sumZ]; omega) (by omega) (by omega)
  intro fu
  induction fu with
  | zero => intro k v3 v5 hm; exact absurd hm (Nat.not_lt_zero _)
  | succ fu ih11 =>
    intro k v3 v5 hm11 e3 e5 hi0
    subst e3
    subst e5
    have hwb := fun z => wgt_b (i := k) hS hO z (q 2 j) (q 3 j) (q 1 j)
    refine wp_iload G 4 dX10_allWeights_11 rfl ?_
    refine wp_aload_n G 0 dX10_allWeights_13 rfl ?_
    refine wp_get G 7 cOk9 fX10_96 dX10_allWeights_14 h64 rfl ?_
    refine wp_icmp_ge G dX10_allWeights_17 (by omega) (by omega) (fun kq1 => ?_) (fun kq1 => ?_)
    · skip
      refine wp_lload_n G 3 dX10_allWeights_52 rfl ?_
      exact wp_lreturn G hr dX10_allWeights_53 ⟨by rw [show k = n by omega], rfl, by rfl⟩
    · skip
      refine wp_lload_n G 3 dX10_allWeights_20 rfl ?_
      refine wp_aload_n G 0 dX10_allWeights_21 rfl ?_
      refine wp_iload G 4 dX10_allWeights_22 rfl ?_
      refine wp_iload_n G 1 dX10_allWeights_24 rfl ?_
      refine wp_iload_n G 2 dX10_allWeights_25 rfl ?_
      refine wp_cVE (b := 64) (ci := 9) (as := [zI ((k : Nat) : Int), zI ((j : Nat) : Int), zI b]) (rest := [zJ (st 3 + sumZ (fun i => ifZ (cnd q (-1) b i ∧ ahd q i j) (wgt pr fa sp q i (q 2 j) (q 3 j) (q 1 j)) 0) k)]) (hp2 := (nx, h, [])) G mX10_mayBear lX10_217 iX10_mayBear eX10_mayBear ⟨_, rfl, rfl⟩ dX10_allWeights_26 h64 rfl rfl (Nat.le_of_ble_eq_true rfl) (rmx_ok hR (by decide) (by decide) (by decide) (by decide)) (t_X10_mayBear (nx := nx) (i := k) (j := j) (b := b) hQ hO hN (by omega) hj ri_b) rfl ?_
      refine wp_ifeq_bt G dX10_allWeights_29 (fun kq2 => ?_) (fun kq2 => ?_)
      · skip
        refine wp_lconst (z := 0) G dX10_allWeights_43 (by decide) ?_
        refine wp_ladd G dX10_allWeights_44 ?_
        refine wp_lstore_n (lv' := [(3, zJ ((st 3 + sumZ (fun i => ifZ (cnd q (-1) b i ∧ ahd q i j) (wgt pr fa sp q i (q 2 j) (q 3 j) (q 1 j)) 0) k) + 0)), (0, zR 64), (1, zI ((j : Nat) : Int)), (2, zI b), (5, zI ((k : Nat) : Int))]) G dX10_allWeights_45 (by decide) rfl ?_
        refine wp_iinc (lv' := [(5, zI (((k : Nat) : Int) + 1)), (3, zJ ((st 3 + sumZ (fun i => ifZ (cnd q (-1) b i ∧ ahd q i j) (wgt pr fa sp q i (q 2 j) (q 3 j) (q 1 j)) 0) k) + 0)), (0, zR 64), (1, zI ((j : Nat) : Int)), (2, zI b)]) G 4 dX10_allWeights_46 rfl (by decide) rfl ?_
        refine wp_goto G dX10_allWeights_49 ?_
        refine wp_lv [2, 3, 4, 1, 0] rfl ?_
        exact ih11 (k + 1) ((st 3 + sumZ (fun i => ifZ (cnd q (-1) b i ∧ ahd q i j) (wgt pr fa sp q i (q 2 j) (q 3 j) (q 1 j)) 0) k) + 0) (((k : Nat) : Int) + 1) (by omega) (by rw [sumZ]; first | (rw [ifZ_y (by assumption)]; omega) | (rw [ifZ_n (by assumption)]; omega)) (by omega) (by omega)
      · skip
        refine wp_aload_n G 0 dX10_allWeights_32 rfl ?_
        refine wp_iload_n G 1 dX10_allWeights_33 rfl ?_
        refine wp_iload G 4 dX10_allWeights_34 rfl ?_
        refine wp_cVE (b := 64) (ci := 9) (as := [zI ((j : Nat) : Int), zI ((k : Nat) : Int)]) (rest := [zJ (st 3 + sumZ (fun i => ifZ (cnd q (-1) b i ∧ ahd q i j) (wgt pr fa sp q i (q 2 j) (q 3 j) (q 1 j)) 0) k)]) (hp2 := (nx, h, [])) G mX10_weightOf lX10_220 iX10_weightOf eX10_weightOf ⟨_, rfl, rfl⟩ dX10_allWeights_36 h64 rfl rfl (Nat.le_of_ble_eq_true rfl) (rmx_ok hR (by decide) (by decide) (by decide) (by decide)) (t_X10_weightOf (nx := nx) (j := j) (i := k) hQ hO hN hMs hS hj (by omega)) rfl ?_
        have hwb2 := hwb (by omega)
        refine wp_i2l G (by omega) dX10_allWeights_39 ?_
        refine wp_goto G dX10_allWeights_40 ?_
        refine wp_ladd G dX10_allWeights_44 ?_
        refine wp_lstore_n (lv' := [(3, zJ ((st 3 + sumZ (fun i => ifZ (cnd q (-1) b i ∧ ahd q i j) (wgt pr fa sp q i (q 2 j) (q 3 j) (q 1 j)) 0) k) + wgt pr fa sp q k (q 2 j) (q 3 j) (q 1 j))), (0, zR 64), (1, zI ((j : Nat) : Int)), (2, zI b), (5, zI ((k : Nat) : Int))]) G dX10_allWeights_45 (by decide) rfl ?_
        refine wp_iinc (lv' := [(5, zI (((k : Nat) : Int) + 1)), (3, zJ ((st 3 + sumZ (fun i => ifZ (cnd q (-1) b i ∧ ahd q i j) (wgt pr fa sp q i (q 2 j) (q 3 j) (q 1 j)) 0) k) + wgt pr fa sp q k (q 2 j) (q 3 j) (q 1 j))), (0, zR 64), (1, zI ((j : Nat) : Int)), (2, zI b)]) G 4 dX10_allWeights_46 rfl (by decide) rfl ?_
        refine wp_goto G dX10_allWeights_49 ?_
        refine wp_lv [2, 3, 4, 1, 0] rfl ?_
        exact ih11 (k + 1) ((st 3 + sumZ (fun i => ifZ (cnd q (-1) b i ∧ ahd q i j) (wgt pr fa sp q i (q 2 j) (q 3 j) (q 1 j)) 0) k) + wgt pr fa sp q k (q 2 j) (q 3 j) (q 1 j)) (((k : Nat) : Int) + 1) (by omega) (by rw [sumZ]; first | (rw [ifZ_y (by assumption)]; omega) | (rw [ifZ_n (by assumption)]; omega)) (by omega) (by omega)

set_option maxRecDepth 100000 in
set_option maxHeartbeats 4000000 in
theorem t_X10_motherOf {nx : Nat} {h : Nat → Option PC} {n : Nat} {q : Nat → Nat → Int} {o : Nat → Nat} {fc : Nat} {hn : Nat} {ln : Nat} {ma : Int} {mb : Int} {st : Nat → Int} {pr : Nat → Int} {fa : Nat → Int} {sp : Nat → Int} {p : Nat} {b : Int} (hQ : isM h n q o fc hn ln ma mb st) (hO : okQ n q o) (hN : okN st) (hMs : isMs h pr fa sp) (hS : okS pr fa sp) (hp : p < n) (ri_b : r32 b) : Cx 4 (0, 0) yX10_motherOf cX10_motherOf 7 (some .int) [zR 64, zI ((o p : Nat) : Int), zI b] nx h (Rt (zI ((lik pr fa sp q o b (st 3) p p).1)) nx []) := by
  refine cx_of pnX10_motherOf (Nat.le_of_ble_eq_true rfl) ?_
  intro K G hr hnm hR
  obtain ⟨h64, h65, h66, h67, h68, h69, h70, h71, h72, h73⟩ := id hQ
  have hn40 := hO.1
  obtain ⟨hN0, hN1, hN2, hN3, hN4⟩ := id hN
  obtain ⟨h77, h78, h79⟩ := id hMs
  have hop := hO.o p hp
  show Wp K 7 (Mx K h (Rt (zI ((lik pr fa sp q o b (st 3) p p).1)) nx []) (0, 0)) (0, 0) 0 [(0, zR 64), (1, zI ((o p : Nat) : Int)), (2, zI b)] [] (nx, h, [])
  refine wp_bipush G dX10_motherOf_0 (by decide) ?_
  refine wp_istore_n (lv' := [(3, zI (-6)), (0, zR 64), (1, zI ((o p : Nat) : Int)), (2, zI b)]) G dX10_motherOf_2 (by decide) rfl ?_
  refine wp_aload_n G 1 dX10_motherOf_3 rfl ?_
  refine wp_get G 8 cOk9 fX10_32 dX10_motherOf_4 h64 rfl ?_
  refine wp_iconst G dX10_motherOf_7 ?_
  refine wp_iald (j := 3) G dX10_motherOf_8 h72 rfl (by decide) (by decide) ?_
  have rrq1 := hN.r 3 (by decide)
  refine wp_istore (lv' := [(4, zI (st 3)), (3, zI (-6)), (0, zR 64), (1, zI ((o p : Nat) : Int)), (2, zI b)]) G dX10_motherOf_9 (by decide) rfl ?_
  refine wp_iconst G dX10_motherOf_11 ?_
  refine wp_istore (lv' := [(5, zI 0), (4, zI (st 3)), (3, zI (-6)), (0, zR 64), (1, zI ((o p : Nat) : Int)), (2, zI b)]) G dX10_motherOf_12 (by decide) rfl ?_
  refine wp_lv [3, 4, 5, 2, 1, 0] rfl ?_
  suffices lp14 : ∀ (fu : Nat) (k : Nat) (v3 : Int) (v4 : Int) (v5 : Int), n - k < fu → (v3 = (lik pr fa sp q o b (st 3) p (min k p)).1) → (v4 = (lik pr fa sp q o b (st 3) p (min k p)).2) → (v5 = ((k : Nat) : Int)) → (k ≤ n) → Wp K 7 (Mx K h (Rt (zI ((lik pr fa sp q o b (st 3) p p).1)) nx []) (0, 0)) (0, 0) 14 [(0, zR 64), (1, zI ((o p : Nat) : Int)), (2, zI b), (3, zI v3), (4, zI v4), (5, zI v5)] [] (nx, h, []) from lp14 _ 0 (-6) (st 3) 0 (Nat.lt_succ_self _) (by rw [Nat.zero_min]; rfl) (by rw [Nat.zero_min]; rfl) (by omega) (by omega)
  intro fu
  induction fu with
  | zero => intro k v3 v4 v5 hm; exact absurd hm (Nat.not_lt_zero _)
  | succ fu ih14 =>
    intro k v3 v4 v5 hm14 e3 e4 e5 hi0
    subst e3
    subst e4
    subst e5
    have hlb := (lik_b (p := p) (b := b) hS hO hN3 (min k p) (by omega)).1
    have hwb := fun z => wpl_b (p := p) hS hO (r := k) z
    have hah := fun z => ahd_lt hO (r := k) (p := p) z hp
    refine wp_iload G 5 dX10_motherOf_14 rfl ?_
    refine wp_aload_n G 0 dX10_motherOf_16 rfl ?_
    refine wp_get G 7 cOk9 fX10_96 dX10_motherOf_17 h64 rfl ?_
    refine wp_icmp_ge G dX10_motherOf_20 (by omega) (by omega) (fun kq1 => ?_) (fun kq1 => ?_)
    · skip
      refine wp_iload_n G 3 dX10_motherOf_73 rfl ?_
      exact wp_ireturn G hr dX10_motherOf_74 ⟨by rw [show min k p = p by omega], rfl, by rfl⟩
    · skip
      refine wp_aload_n G 0 dX10_motherOf_23 rfl ?_
      refine wp_get G 9 cOk9 fX10_35 dX10_motherOf_24 h64 rfl ?_
      refine wp_iload G 5 dX10_motherOf_27 rfl ?_
      refine wp_iald (j := k) G dX10_motherOf_29 h73 rfl (by omega) (by decide) ?_
      have rrq2 := hO.o k (by omega)
      refine wp_istore (lv' := [(6, zI ((o k : Nat) : Int)), (0, zR 64), (1, zI ((o p : Nat) : Int)), (2, zI b), (3, zI ((lik pr fa sp q o b (st 3) p (min k p)).1)), (4, zI ((lik pr fa sp q o b (st 3) p (min k p)).2)), (5, zI ((k : Nat) : Int))]) G dX10_motherOf_30 (by decide) rfl ?_
      have hok := hO.o k (by omega)
      have hah2 := hah (by omega)
      have hwb2 := hwb (by omega)
      unfold wpl at hwb2
      refine wp_aload_n G 1 dX10_motherOf_32 rfl ?_
      refine wp_iload G 0 dX10_motherOf_33 rfl ?_
      refine wp_iload_n G 2 dX10_motherOf_35 rfl ?_
      refine wp_iload_n G 3 dX10_motherOf_36 rfl ?_
      refine wp_cVE (b := 64) (ci := 9) (as := [zI ((o k : Nat) : Int), zI ((o p : Nat) : Int), zI b]) (rest := []) (hp2 := (nx, h, [])) G mX10_mayBear lX10_217 iX10_mayBear eX10_mayBear ⟨_, rfl, rfl⟩ dX10_motherOf_37 h64 rfl rfl (Nat.le_of_ble_eq_true rfl) (rmx_ok hR (by decide) (by decide) (by decide) (by decide)) (t_X10_mayBear (nx := nx) (i := (o k)) (j := (o p)) (b := b) hQ hO hN hok hop ri_b) rfl ?_
      refine wp_ifeq_bt G dX10_motherOf_40 (fun kq2 => ?_) (fun kq2 => ?_)
      · skip
        refine wp_iinc (lv' := [(5, zI (((k : Nat) : Int) + 1)), (6, zI ((o k : Nat) : Int)), (0, zR 64), (1, zI ((o p : Nat) : Int)), (2, zI b), (3, zI ((lik pr fa sp q o b (st 3) p (min k p)).1)), (4, zI ((lik pr fa sp q o b (st 3) p (min k p)).2))]) G 6 dX10_motherOf_67 rfl (by decide) rfl ?_
        refine wp_goto G dX10_motherOf_70 ?_
        refine wp_lv [2, 3, 4, 5, 6, 0] rfl ?_
        exact ih14 (k + 1) ((lik pr fa sp q o b (st 3) p (min k p)).1) ((lik pr fa sp q o b (st 3) p (min k p)).2) (((k : Nat) : Int) + 1) (by omega) (by first | (exact mlk_y1 hah2 kq2 (by unfold wpl; exact kq3)) | (exact mlk_n1 hah2 (by intro z; first | exact kq2 z.1 | (have z2 := z.2; unfold wpl at z2; omega)))) (by first | (exact mlk_y2 hah2 kq2 (by unfold wpl; exact kq3)) | (exact mlk_n2 hah2 (by intro z; first | exact kq2 z.1 | (have z2 := z.2; unfold wpl at z2; omega)))) (by omega) (by omega)
      · skip
        refine wp_aload_n G 1 dX10_motherOf_43 rfl ?_
        refine wp_iload_n G 2 dX10_motherOf_44 rfl ?_
        refine wp_iload G 0 dX10_motherOf_45 rfl ?_
        refine wp_cVE (b := 64) (ci := 9) (as := [zI ((o p : Nat) : Int), zI ((o k : Nat) : Int)]) (rest := []) (hp2 := (nx, h, [])) G mX10_weightOf lX10_220 iX10_weightOf eX10_weightOf ⟨_, rfl, rfl⟩ dX10_motherOf_47 h64 rfl rfl (Nat.le_of_ble_eq_true rfl) (rmx_ok hR (by decide) (by decide) (by decide) (by decide)) (t_X10_weightOf (nx := nx) (j := (o p)) (i := (o k)) hQ hO hN hMs hS hop hok) rfl ?_
        refine wp_iload G 5 dX10_motherOf_50 rfl ?_
        refine wp_icmp_le G dX10_motherOf_52 (by omega) (by omega) (fun kq3 => ?_) (fun kq3 => ?_)
        · skip
          refine wp_iinc (lv' := [(5, zI (((k : Nat) : Int) + 1)), (6, zI ((o k : Nat) : Int)), (0, zR 64), (1, zI ((o p : Nat) : Int)), (2, zI b), (3, zI ((lik pr fa sp q o b (st 3) p (min k p)).1)), (4, zI ((lik pr fa sp q o b (st 3) p (min k p)).2))]) G 6 dX10_motherOf_67 rfl (by decide) rfl ?_
          refine wp_goto G dX10_motherOf_70 ?_
          refine wp_lv [2, 3, 4, 5, 6, 0] rfl ?_
          exact ih14 (k + 1) ((lik pr fa sp q o b (st 3) p (min k p)).1) ((lik pr fa sp q o b (st 3) p (min k p)).2) (((k : Nat) : Int) + 1) (by omega) (by first | (exact mlk_y1 hah2 kq2 (by unfold wpl; exact kq3)) | (exact mlk_n1 hah2 (by intro z; first | exact kq2 z.1 | (have z2 := z.2; unfold wpl at z2; omega)))) (by first | (exact mlk_y2 hah2 kq2 (by unfold wpl; exact kq3)) | (exact mlk_n2 hah2 (by intro z; first | exact kq2 z.1 | (have z2 := z.2; unfold wpl at z2; omega)))) (by omega) (by omega)
        · skip
          refine wp_iload G 0 dX10_motherOf_55 rfl ?_
          refine wp_istore_n (lv' := [(3, zI ((o k : Nat) : Int)), (6, zI ((o k : Nat) : Int)), (0, zR 64), (1, zI ((o p : Nat) : Int)), (2, zI b), (4, zI ((lik pr fa sp q o b (st 3) p (min k p)).2)), (5, zI ((k : Nat) : Int))]) G dX10_motherOf_57 (by decide) rfl ?_
          refine wp_aload_n G 2 dX10_motherOf_58 rfl ?_
          refine wp_iload_n G 3 dX10_motherOf_59 rfl ?_
          refine wp_iload G 1 dX10_motherOf_60 rfl ?_
          refine wp_cVE (b := 64) (ci := 9) (as := [zI ((o p : Nat) : Int), zI ((o k : Nat) : Int)]) (rest := []) (hp2 := (nx, h, [])) G mX10_weightOf lX10_220 iX10_weightOf eX10_weightOf ⟨_, rfl, rfl⟩ dX10_motherOf_62 h64 rfl rfl (Nat.le_of_ble_eq_true rfl) (rmx_ok hR (by decide) (by decide) (by decide) (by decide)) (t_X10_weightOf (nx := nx) (j := (o p)) (i := (o k)) hQ hO hN hMs hS hop hok) rfl ?_
          refine wp_istore (lv' := [(4, zI (wgt pr fa sp q (o k) (q 2 (o p)) (q 3 (o p)) (q 1 (o p)))), (3, zI ((o k : Nat) : Int)), (6, zI ((o k : Nat) : Int)), (0, zR 64), (1, zI ((o p : Nat) : Int)), (2, zI b), (5, zI ((k : Nat) : Int))]) G dX10_motherOf_65 (by decide) rfl ?_
          refine wp_iinc (lv' := [(5, zI (((k : Nat) : Int) + 1)), (4, zI (wgt pr fa sp q (o k) (q 2 (o p)) (q 3 (o p)) (q 1 (o p)))), (3, zI ((o k : Nat) : Int)), (6, zI ((o k : Nat) : Int)), (0, zR 64), (1, zI ((o p : Nat) : Int)), (2, zI b)]) G 6 dX10_motherOf_67 rfl (by decide) rfl ?_
          refine wp_goto G dX10_motherOf_70 ?_
          refine wp_lv [4, 5, 6, 2, 1, 0] rfl ?_
          exact ih14 (k + 1) ((o k : Nat) : Int) (wgt pr fa sp q (o k) (q 2 (o p)) (q 3 (o p)) (q 1 (o p))) (((k : Nat) : Int) + 1) (by omega) (by first | (exact mlk_y1 hah2 kq2 (by unfold wpl; exact kq3)) | (exact mlk_n1 hah2 (by intro z; first | exact kq2 z.1 | (have z2 := z.2; unfold wpl at z2; omega)))) (by first | (exact mlk_y2 hah2 kq2 (by unfold wpl; exact kq3)) | (exact mlk_n2 hah2 (by intro z; first | exact kq2 z.1 | (have z2 := z.2; unfold wpl at z2; omega)))) (by omega) (by omega)

set_option maxRecDepth 100000 in
set_option maxHeartbeats 4000000 in
theorem t_X10_whyNot {nx : Nat} {h : Nat → Option PC} {n : Nat} {q : Nat → Nat → Int} {o : Nat → Nat} {fc : Nat} {hn : Nat} {ln : Nat} {ma : Int} {mb : Int} {st : Nat → Int} {v : Int} {b : Int} (hQ : isM h n q o fc hn ln ma mb st) (hO : okQ n q o) (hN : okN st) (ri_v : r32 v) (ri_b : r32 b) : Cx 2 (0, 0) yX10_whyNot cX10_whyNot 3 (some .int) [zR 64, zI v, zI b] nx h (Rt (zI (whN q n v b)) nx []) := by
  refine cx_of pnX10_whyNot (Nat.le_of_ble_eq_true rfl) ?_
  intro K G hr hnm hR
  obtain ⟨h64, h65, h66, h67, h68, h69, h70, h71, h72, h73⟩ := id hQ
  have hn40 := hO.1
  obtain ⟨hN0, hN1, hN2, hN3, hN4⟩ := id hN
  show Wp K 3 (Mx K h (Rt (zI (whN q n v b)) nx []) (0, 0)) (0, 0) 0 [(0, zR 64), (1, zI v), (2, zI b)] [] (nx, h, [])
  refine wp_aload_n G 0 dX10_whyNot_0 rfl ?_
  refine wp_iload_n G 1 dX10_whyNot_1 rfl ?_
  refine wp_cVE (b := 64) (ci := 9) (as := [zI v]) (rest := []) (hp2 := (nx, h, [])) G mX10_isQuake lX10_126 iX10_isQuake eX10_isQuake ⟨_, rfl, rfl⟩ dX10_whyNot_2 h64 rfl rfl (Nat.le_of_ble_eq_true rfl) (rmx_ok hR (by decide) (by decide) (by decide) (by decide)) (t_X10_isQuake (nx := nx) (v := v) hQ hO hN ri_v) rfl ?_
  refine wp_ifne_bt G dX10_whyNot_5 (fun kq1 => ?_) (fun kq1 => ?_)
  · skip
    refine wp_iload_n G 2 dX10_whyNot_12 rfl ?_
    refine wp_cSE (as := [zI b]) (rest := []) (hp2 := (nx, h, [])) G mX10_isDay lX10_120 sX10_isDay dX10_whyNot_13 rfl rfl (Nat.le_of_ble_eq_true rfl) (rmx_ok hR (by decide) (by decide) (by decide) (by decide)) (t_X10_isDay (nx := nx) (v := b) (by omega)) rfl ?_
    refine wp_ifne_bt G dX10_whyNot_16 (fun kq2 => ?_) (fun kq2 => ?_)
    · skip
      obtain ⟨vv, e_vv⟩ := Int.eq_ofNat_of_zero_le (show 0 ≤ v from (by omega))
      subst e_vv
      refine wp_aload_n G 0 dX10_whyNot_24 rfl ?_
      refine wp_iload_n G 1 dX10_whyNot_25 rfl ?_
      refine wp_iconst G dX10_whyNot_26 ?_
      refine wp_iload_n G 2 dX10_whyNot_27 rfl ?_
      refine wp_cVE (b := 64) (ci := 9) (as := [zI ((vv : Nat) : Int), zI (-1), zI b]) (rest := []) (hp2 := (nx, h, [])) G mX10_isCounted lX10_167 iX10_isCounted eX10_isCounted ⟨_, rfl, rfl⟩ dX10_whyNot_28 h64 rfl rfl (Nat.le_of_ble_eq_true rfl) (rmx_ok hR (by decide) (by decide) (by decide) (by decide)) (t_X10_isCounted (nx := nx) (j := vv) (a := (-1)) (b := b) hQ hO hN (by omega) (by omega) ri_b) rfl ?_
      refine wp_ifne_bt G dX10_whyNot_31 (fun kq3 => ?_) (fun kq3 => ?_)
      · skip
        refine wp_iconst G dX10_whyNot_39 ?_
        exact wp_ireturn G hr dX10_whyNot_40 ⟨by unfold whN; first | (rw [if_neg (by omega)]; done) | (rw [if_pos (by omega), if_neg (by omega)]; done) | (rw [if_pos (by omega), if_pos (by omega)]; first | rw [ifZ_y (by assumption)] | rw [ifZ_n (by assumption)]), rfl, by rfl⟩
      · skip
        refine wp_bipush G dX10_whyNot_34 (by decide) ?_
        refine wp_goto G dX10_whyNot_36 ?_
        exact wp_ireturn G hr dX10_whyNot_40 ⟨by unfold whN; first | (rw [if_neg (by omega)]; done) | (rw [if_pos (by omega), if_neg (by omega)]; done) | (rw [if_pos (by omega), if_pos (by omega)]; first | rw [ifZ_y (by assumption)] | rw [ifZ_n (by assumption)]), rfl, by rfl⟩
    · skip
      refine wp_bipush G dX10_whyNot_19 (by decide) ?_
      refine wp_goto G dX10_whyNot_21 ?_
      exact wp_ireturn G hr dX10_whyNot_40 ⟨by unfold whN; first | (rw [if_neg (by omega)]; done) | (rw [if_pos (by omega), if_neg (by omega)]; done) | (rw [if_pos (by omega), if_pos (by omega)]; first | rw [ifZ_y (by assumption)] | rw [ifZ_n (by assumption)]), rfl, by rfl⟩
  · skip
    refine wp_iconst G dX10_whyNot_8 ?_
    refine wp_goto G dX10_whyNot_9 ?_
    exact wp_ireturn G hr dX10_whyNot_40 ⟨by unfold whN; first | (rw [if_neg (by omega)]; done) | (rw [if_pos (by omega), if_neg (by omega)]; done) | (rw [if_pos (by omega), if_pos (by omega)]; first | rw [ifZ_y (by assumption)] | rw [ifZ_n (by assumption)]), rfl, by rfl⟩

set_option maxRecDepth 100000 in
set_option maxHeartbeats 4000000 in
theorem t_X10_firstOf {nx : Nat} {h : Nat → Option PC} {n : Nat} {q : Nat → Nat → Int} {o : Nat → Nat} {fc : Nat} {hn : Nat} {ln : Nat} {ma : Int} {mb : Int} {st : Nat → Int} {pr : Nat → Int} {fa : Nat → Int} {sp : Nat → Int} {p : Nat} {b : Int} (hQ : isM h n q o fc hn ln ma mb st) (hO : okQ n q o) (hN : okN st) (hMs : isMs h pr fa sp) (hS : okS pr fa sp) (hp : p < n) (ri_b : r32 b) : Cx 5 (0, 0) yX10_firstOf cX10_firstOf 5 (some .int) [zR 64, zI ((o p : Nat) : Int), zI b] nx h (Rt (zI ((o (fsP pr fa sp q o b (st 3) p p) : Nat) : Int)) nx []) := by
  refine cx_of pnX10_firstOf (Nat.le_of_ble_eq_true rfl) ?_
  intro K G hr hnm hR
  obtain ⟨h64, h65, h66, h67, h68, h69, h70, h71, h72, h73⟩ := id hQ
  have hn40 := hO.1
  obtain ⟨hN0, hN1, hN2, hN3, hN4⟩ := id hN
  obtain ⟨h77, h78, h79⟩ := id hMs
  show Wp K 5 (Mx K h (Rt (zI ((o (fsP pr fa sp q o b (st 3) p p) : Nat) : Int)) nx []) (0, 0)) (0, 0) 0 [(0, zR 64), (1, zI ((o p : Nat) : Int)), (2, zI b)] [] (nx, h, [])
  refine wp_iload_n G 1 dX10_firstOf_0 rfl ?_
  refine wp_istore_n (lv' := [(3, zI ((o p : Nat) : Int)), (0, zR 64), (1, zI ((o p : Nat) : Int)), (2, zI b)]) G dX10_firstOf_1 (by decide) rfl ?_
  refine wp_aload_n G 1 dX10_firstOf_2 rfl ?_
  refine wp_iload_n G 0 dX10_firstOf_3 rfl ?_
  refine wp_iload_n G 3 dX10_firstOf_4 rfl ?_
  refine wp_cVE (b := 64) (ci := 9) (as := [zI ((o p : Nat) : Int), zI b]) (rest := []) (hp2 := (nx, h, [])) G mX10_motherOf lX10_229 iX10_motherOf eX10_motherOf ⟨_, rfl, rfl⟩ dX10_firstOf_5 h64 rfl rfl (Nat.le_of_ble_eq_true rfl) (rmx_ok hR (by decide) (by decide) (by decide) (by decide)) (t_X10_motherOf (nx := nx) (p := p) (b := b) hQ hO hN hMs hS hp ri_b) rfl ?_
  refine wp_istore (lv' := [(4, zI ((lik pr fa sp q o b (st 3) p p).1)), (3, zI ((o p : Nat) : Int)), (0, zR 64), (1, zI ((o p : Nat) : Int)), (2, zI b)]) G dX10_firstOf_8 (by decide) rfl ?_
  refine wp_lv [2, 3, 4, 1, 0] rfl ?_
  suffices lp10 : ∀ (fu : Nat) (x : Nat) (v3 : Int) (v4 : Int), x < fu → (v3 = ((o x : Nat) : Int)) → (v4 = (lik pr fa sp q o b (st 3) x x).1) → (x < n) → (fsP pr fa sp q o b (st 3) x x = fsP pr fa sp q o b (st 3) p p) → Wp K 5 (Mx K h (Rt (zI ((o (fsP pr fa sp q o b (st 3) p p) : Nat) : Int)) nx []) (0, 0)) (0, 0) 10 [(0, zR 64), (1, zI ((o p : Nat) : Int)), (2, zI b), (3, zI v3), (4, zI v4)] [] (nx, h, []) from lp10 _ p ((o p : Nat) : Int) ((lik pr fa sp q o b (st 3) p p).1) (Nat.lt_succ_self _) (by omega) (by omega) (by omega) (by rfl)
  intro fu
  induction fu with
  | zero => intro x v3 v4 hm; exact absurd hm (Nat.not_lt_zero _)
  | succ fu ih10 =>
    intro x v3 v4 hm10 e3 e4 hi0 hfx
    subst e3
    subst e4
    have hli := lik_i (p := x) (r := x) (b := b) hS hO hN3 (by omega)
    refine wp_iload G 4 dX10_firstOf_10 rfl ?_
    refine wp_if_lt G dX10_firstOf_12 (by omega) (fun kq1 => ?_) (fun kq1 => ?_)
    · skip
      refine wp_iload_n G 3 dX10_firstOf_29 rfl ?_
      exact wp_ireturn G hr dX10_firstOf_30 ⟨by have hcc := lik_c (pr := pr) (fa := fa) (sp := sp) (q := q) (o := o) (b := b) (calm := st 3) x; rcases hcc with hcc | ⟨r, hr1, hr2, hr3, hr4⟩; rw [← hfx, (fs_top hcc.2).1]; exfalso; omega, rfl, by rfl⟩
    · skip
      have hcc := lik_c (pr := pr) (fa := fa) (sp := sp) (q := q) (o := o) (b := b) (calm := st 3) x
      obtain ⟨r, hr1, hr2, hr3, hr4⟩ : ∃ r, r < x ∧ cnd q (-1) b (o r) ∧ (lik pr fa sp q o b (st 3) x x).1 = ((o r : Nat) : Int) ∧ lkp pr fa sp q o b (st 3) x x = some r := hcc.resolve_left (fun z => by have := z.1; omega)
      have hup := fs_up hr4
      rw [hr3]
      refine wp_iload G 4 dX10_firstOf_15 rfl ?_
      refine wp_istore_n (lv' := [(3, zI ((o r : Nat) : Int)), (0, zR 64), (1, zI ((o p : Nat) : Int)), (2, zI b), (4, zI ((o r : Nat) : Int))]) G dX10_firstOf_17 (by decide) rfl ?_
      refine wp_aload_n G 1 dX10_firstOf_18 rfl ?_
      refine wp_iload_n G 0 dX10_firstOf_19 rfl ?_
      refine wp_iload_n G 3 dX10_firstOf_20 rfl ?_
      refine wp_cVE (b := 64) (ci := 9) (as := [zI ((o r : Nat) : Int), zI b]) (rest := []) (hp2 := (nx, h, [])) G mX10_motherOf lX10_229 iX10_motherOf eX10_motherOf ⟨_, rfl, rfl⟩ dX10_firstOf_21 h64 rfl rfl (Nat.le_of_ble_eq_true rfl) (rmx_ok hR (by decide) (by decide) (by decide) (by decide)) (t_X10_motherOf (nx := nx) (p := r) (b := b) hQ hO hN hMs hS (by omega) ri_b) rfl ?_
      refine wp_istore (lv' := [(4, zI ((lik pr fa sp q o b (st 3) r r).1)), (3, zI ((o r : Nat) : Int)), (0, zR 64), (1, zI ((o p : Nat) : Int)), (2, zI b)]) G dX10_firstOf_24 (by decide) rfl ?_
      refine wp_goto G dX10_firstOf_26 ?_
      refine wp_lv [2, 3, 4, 1, 0] rfl ?_
      exact ih10 r ((o r : Nat) : Int) ((lik pr fa sp q o b (st 3) r r).1) (by omega) (by omega) (by omega) (by omega) (by rw [← hfx, hup.1])

set_option maxRecDepth 100000 in
set_option maxHeartbeats 4000000 in
theorem t_X10_depthOf {nx : Nat} {h : Nat → Option PC} {n : Nat} {q : Nat → Nat → Int} {o : Nat → Nat} {fc : Nat} {hn : Nat} {ln : Nat} {ma : Int} {mb : Int} {st : Nat → Int} {pr : Nat → Int} {fa : Nat → Int} {sp : Nat → Int} {p : Nat} {b : Int} (hQ : isM h n q o fc hn ln ma mb st) (hO : okQ n q o) (hN : okN st) (hMs : isMs h pr fa sp) (hS : okS pr fa sp) (hp : p < n) (ri_b : r32 b) : Cx 5 (0, 0) yX10_depthOf cX10_depthOf 5 (some .int) [zR 64, zI ((o p : Nat) : Int), zI b] nx h (Rt (zI ((dpP pr fa sp q o b (st 3) p p : Nat) : Int)) nx []) := by
  refine cx_of pnX10_depthOf (Nat.le_of_ble_eq_true rfl) ?_
  intro K G hr hnm hR
  obtain ⟨h64, h65, h66, h67, h68, h69, h70, h71, h72, h73⟩ := id hQ
  have hn40 := hO.1
  obtain ⟨hN0, hN1, hN2, hN3, hN4⟩ := id hN
  obtain ⟨h77, h78, h79⟩ := id hMs
  show Wp K 5 (Mx K h (Rt (zI ((dpP pr fa sp q o b (st 3) p p : Nat) : Int)) nx []) (0, 0)) (0, 0) 0 [(0, zR 64), (1, zI ((o p : Nat) : Int)), (2, zI b)] [] (nx, h, [])
  refine wp_iconst G dX10_depthOf_0 ?_
  refine wp_istore_n (lv' := [(3, zI 0), (0, zR 64), (1, zI ((o p : Nat) : Int)), (2, zI b)]) G dX10_depthOf_1 (by decide) rfl ?_
  refine wp_aload_n G 1 dX10_depthOf_2 rfl ?_
  refine wp_iload_n G 2 dX10_depthOf_3 rfl ?_
  refine wp_iload_n G 3 dX10_depthOf_4 rfl ?_
  refine wp_cVE (b := 64) (ci := 9) (as := [zI ((o p : Nat) : Int), zI b]) (rest := []) (hp2 := (nx, h, [])) G mX10_motherOf lX10_229 iX10_motherOf eX10_motherOf ⟨_, rfl, rfl⟩ dX10_depthOf_5 h64 rfl rfl (Nat.le_of_ble_eq_true rfl) (rmx_ok hR (by decide) (by decide) (by decide) (by decide)) (t_X10_motherOf (nx := nx) (p := p) (b := b) hQ hO hN hMs hS hp ri_b) rfl ?_
  refine wp_istore (lv' := [(4, zI ((lik pr fa sp q o b (st 3) p p).1)), (3, zI 0), (0, zR 64), (1, zI ((o p : Nat) : Int)), (2, zI b)]) G dX10_depthOf_8 (by decide) rfl ?_
  refine wp_lv [2, 3, 4, 1, 0] rfl ?_
  suffices lp10 : ∀ (fu : Nat) (x : Nat) (k : Nat) (v3 : Int) (v4 : Int), x < fu → (v3 = ((k : Nat) : Int)) → (v4 = (lik pr fa sp q o b (st 3) x x).1) → (x < n) → (k + dpP pr fa sp q o b (st 3) x x = dpP pr fa sp q o b (st 3) p p) → Wp K 5 (Mx K h (Rt (zI ((dpP pr fa sp q o b (st 3) p p : Nat) : Int)) nx []) (0, 0)) (0, 0) 10 [(0, zR 64), (1, zI ((o p : Nat) : Int)), (2, zI b), (3, zI v3), (4, zI v4)] [] (nx, h, []) from lp10 _ p 0 0 ((lik pr fa sp q o b (st 3) p p).1) (Nat.lt_succ_self _) (by omega) (by omega) (by omega) (by simp)
  intro fu
  induction fu with
  | zero => intro x k v3 v4 hm; exact absurd hm (Nat.not_lt_zero _)
  | succ fu ih10 =>
    intro x k v3 v4 hm10 e3 e4 hi0 hfx
    subst e3
    subst e4
    have hli := lik_i (p := x) (r := x) (b := b) hS hO hN3 (by omega)
    refine wp_iload G 4 dX10_depthOf_10 rfl ?_
    refine wp_if_lt G dX10_depthOf_12 (by omega) (fun kq1 => ?_) (fun kq1 => ?_)
    · skip
      refine wp_iload_n G 3 dX10_depthOf_30 rfl ?_
      exact wp_ireturn G hr dX10_depthOf_31 ⟨by have hcc := lik_c (pr := pr) (fa := fa) (sp := sp) (q := q) (o := o) (b := b) (calm := st 3) x; rcases hcc with hcc | ⟨r, hr1, hr2, hr3, hr4⟩; rw [← hfx, (fs_top hcc.2).2]; rfl; exfalso; omega, rfl, by rfl⟩
    · skip
      have hcc := lik_c (pr := pr) (fa := fa) (sp := sp) (q := q) (o := o) (b := b) (calm := st 3) x
      obtain ⟨r, hr1, hr2, hr3, hr4⟩ : ∃ r, r < x ∧ cnd q (-1) b (o r) ∧ (lik pr fa sp q o b (st 3) x x).1 = ((o r : Nat) : Int) ∧ lkp pr fa sp q o b (st 3) x x = some r := hcc.resolve_left (fun z => by have := z.1; omega)
      have hup := fs_up hr4
      rw [hr3]
      refine wp_iinc (lv' := [(3, zI (((k : Nat) : Int) + 1)), (0, zR 64), (1, zI ((o p : Nat) : Int)), (2, zI b), (4, zI ((o r : Nat) : Int))]) G 3 dX10_depthOf_15 rfl (by decide) rfl ?_
      refine wp_aload_n G 1 dX10_depthOf_18 rfl ?_
      refine wp_iload G 4 dX10_depthOf_19 rfl ?_
      refine wp_iload_n G 3 dX10_depthOf_21 rfl ?_
      refine wp_cVE (b := 64) (ci := 9) (as := [zI ((o r : Nat) : Int), zI b]) (rest := []) (hp2 := (nx, h, [])) G mX10_motherOf lX10_229 iX10_motherOf eX10_motherOf ⟨_, rfl, rfl⟩ dX10_depthOf_22 h64 rfl rfl (Nat.le_of_ble_eq_true rfl) (rmx_ok hR (by decide) (by decide) (by decide) (by decide)) (t_X10_motherOf (nx := nx) (p := r) (b := b) hQ hO hN hMs hS (by omega) ri_b) rfl ?_
      refine wp_istore (lv' := [(4, zI ((lik pr fa sp q o b (st 3) r r).1)), (3, zI (((k : Nat) : Int) + 1)), (0, zR 64), (1, zI ((o p : Nat) : Int)), (2, zI b)]) G dX10_depthOf_25 (by decide) rfl ?_
      refine wp_goto G dX10_depthOf_27 ?_
      refine wp_lv [2, 3, 4, 1, 0] rfl ?_
      exact ih10 r (k + 1) (((k : Nat) : Int) + 1) ((lik pr fa sp q o b (st 3) r r).1) (by omega) (by omega) (by omega) (by omega) (by have := hup.2; omega)

