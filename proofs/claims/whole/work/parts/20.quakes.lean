
set_option maxRecDepth 100000 in
set_option maxHeartbeats 4000000 in
theorem t_X9_within {nx : Nat} {h : Nat → Option PC} {v : Int} {lo : Int} {hi : Int} (ri_v : r32 v) (ri_lo : r32 lo) (ri_hi : r32 hi) : Cx 0 (0, 0) yX9_within cX9_within 3 (some .boolean) [zI v, zI lo, zI hi] nx h (Rt (zI (bt (lo ≤ v ∧ v ≤ hi))) nx []) := by
  refine cx_of pnX9_within (Nat.le_of_ble_eq_true rfl) ?_
  intro K G hr hnm hR
  show Wp K 3 (Mx K h (Rt (zI (bt (lo ≤ v ∧ v ≤ hi))) nx []) (0, 0)) (0, 0) 0 [(0, zI v), (1, zI lo), (2, zI hi)] [] (nx, h, [])
  refine wp_iload_n G 0 dX9_within_0 rfl ?_
  refine wp_iload_n G 1 dX9_within_1 rfl ?_
  refine wp_icmp_lt G dX9_within_2 (by omega) (by omega) (fun kq1 => ?_) (fun kq1 => ?_)
  · skip
    refine wp_iconst G dX9_within_14 ?_
    exact wp_zreturn G (by omega) hr dX9_within_15 ⟨by first | rw [bt_1 (by omega)] | rw [bt_0 (by omega)], rfl, by rfl⟩
  · skip
    refine wp_iload_n G 0 dX9_within_5 rfl ?_
    refine wp_iload_n G 2 dX9_within_6 rfl ?_
    refine wp_icmp_gt G dX9_within_7 (by omega) (by omega) (fun kq2 => ?_) (fun kq2 => ?_)
    · skip
      refine wp_iconst G dX9_within_14 ?_
      exact wp_zreturn G (by omega) hr dX9_within_15 ⟨by first | rw [bt_1 (by omega)] | rw [bt_0 (by omega)], rfl, by rfl⟩
    · skip
      refine wp_iconst G dX9_within_10 ?_
      refine wp_goto G dX9_within_11 ?_
      exact wp_zreturn G (by omega) hr dX9_within_15 ⟨by first | rw [bt_1 (by omega)] | rw [bt_0 (by omega)], rfl, by rfl⟩

set_option maxRecDepth 100000 in
set_option maxHeartbeats 4000000 in
theorem t_X9_isList {nx : Nat} {h : Nat → Option PC} {v : Int} (ri_v : r32 v) : Cx 1 (0, 0) yX9_isList cX9_isList 1 (some .boolean) [zI v] nx h (Rt (zI (bt (0 ≤ v ∧ v ≤ 2))) nx []) := by
  refine cx_of pnX9_isList (Nat.le_of_ble_eq_true rfl) ?_
  intro K G hr hnm hR
  show Wp K 1 (Mx K h (Rt (zI (bt (0 ≤ v ∧ v ≤ 2))) nx []) (0, 0)) (0, 0) 0 [(0, zI v)] [] (nx, h, [])
  refine wp_iload_n G 0 dX9_isList_0 rfl ?_
  refine wp_iconst G dX9_isList_1 ?_
  refine wp_iconst G dX9_isList_2 ?_
  refine wp_cSE (as := [zI v, zI 0, zI 2]) (rest := []) (hp2 := (nx, h, [])) G mX9_within lX9_127 sX9_within dX9_isList_3 rfl rfl (Nat.le_of_ble_eq_true rfl) (rmx_ok hR (by decide) (by decide) (by decide) (by decide)) (t_X9_within (nx := nx) (v := v) (lo := 0) (hi := 2) ri_v (by omega) (by omega)) rfl ?_
  exact wp_zreturn G (bt_01 _) hr dX9_isList_6 ⟨by rfl, rfl, by rfl⟩

set_option maxRecDepth 100000 in
set_option maxHeartbeats 4000000 in
theorem t_X9_isDay {nx : Nat} {h : Nat → Option PC} {v : Int} (ri_v : r32 v) : Cx 1 (0, 0) yX9_isDay cX9_isDay 1 (some .boolean) [zI v] nx h (Rt (zI (bt (0 ≤ v ∧ v ≤ 3999))) nx []) := by
  refine cx_of pnX9_isDay (Nat.le_of_ble_eq_true rfl) ?_
  intro K G hr hnm hR
  show Wp K 1 (Mx K h (Rt (zI (bt (0 ≤ v ∧ v ≤ 3999))) nx []) (0, 0)) (0, 0) 0 [(0, zI v)] [] (nx, h, [])
  refine wp_iload_n G 0 dX9_isDay_0 rfl ?_
  refine wp_iconst G dX9_isDay_1 ?_
  refine wp_sipush G dX9_isDay_2 (by decide) ?_
  refine wp_cSE (as := [zI v, zI 0, zI 3999]) (rest := []) (hp2 := (nx, h, [])) G mX9_within lX9_127 sX9_within dX9_isDay_5 rfl rfl (Nat.le_of_ble_eq_true rfl) (rmx_ok hR (by decide) (by decide) (by decide) (by decide)) (t_X9_within (nx := nx) (v := v) (lo := 0) (hi := 3999) ri_v (by omega) (by omega)) rfl ?_
  exact wp_zreturn G (bt_01 _) hr dX9_isDay_8 ⟨by rfl, rfl, by rfl⟩

set_option maxRecDepth 100000 in
set_option maxHeartbeats 4000000 in
theorem t_X9_isGreatness {nx : Nat} {h : Nat → Option PC} {v : Int} (ri_v : r32 v) : Cx 1 (0, 0) yX9_isGreatness cX9_isGreatness 1 (some .boolean) [zI v] nx h (Rt (zI (bt (0 ≤ v ∧ v ≤ 90))) nx []) := by
  refine cx_of pnX9_isGreatness (Nat.le_of_ble_eq_true rfl) ?_
  intro K G hr hnm hR
  show Wp K 1 (Mx K h (Rt (zI (bt (0 ≤ v ∧ v ≤ 90))) nx []) (0, 0)) (0, 0) 0 [(0, zI v)] [] (nx, h, [])
  refine wp_iload_n G 0 dX9_isGreatness_0 rfl ?_
  refine wp_iconst G dX9_isGreatness_1 ?_
  refine wp_bipush G dX9_isGreatness_2 (by decide) ?_
  refine wp_cSE (as := [zI v, zI 0, zI 90]) (rest := []) (hp2 := (nx, h, [])) G mX9_within lX9_127 sX9_within dX9_isGreatness_4 rfl rfl (Nat.le_of_ble_eq_true rfl) (rmx_ok hR (by decide) (by decide) (by decide) (by decide)) (t_X9_within (nx := nx) (v := v) (lo := 0) (hi := 90) ri_v (by omega) (by omega)) rfl ?_
  exact wp_zreturn G (bt_01 _) hr dX9_isGreatness_7 ⟨by rfl, rfl, by rfl⟩

set_option maxRecDepth 100000 in
set_option maxHeartbeats 4000000 in
theorem t_X9_isPart {nx : Nat} {h : Nat → Option PC} {v : Int} (ri_v : r32 v) : Cx 1 (0, 0) yX9_isPart cX9_isPart 1 (some .boolean) [zI v] nx h (Rt (zI (bt (0 ≤ v ∧ v ≤ 1))) nx []) := by
  refine cx_of pnX9_isPart (Nat.le_of_ble_eq_true rfl) ?_
  intro K G hr hnm hR
  show Wp K 1 (Mx K h (Rt (zI (bt (0 ≤ v ∧ v ≤ 1))) nx []) (0, 0)) (0, 0) 0 [(0, zI v)] [] (nx, h, [])
  refine wp_iload_n G 0 dX9_isPart_0 rfl ?_
  refine wp_iconst G dX9_isPart_1 ?_
  refine wp_iconst G dX9_isPart_2 ?_
  refine wp_cSE (as := [zI v, zI 0, zI 1]) (rest := []) (hp2 := (nx, h, [])) G mX9_within lX9_127 sX9_within dX9_isPart_3 rfl rfl (Nat.le_of_ble_eq_true rfl) (rmx_ok hR (by decide) (by decide) (by decide) (by decide)) (t_X9_within (nx := nx) (v := v) (lo := 0) (hi := 1) ri_v (by omega) (by omega)) rfl ?_
  exact wp_zreturn G (bt_01 _) hr dX9_isPart_6 ⟨by rfl, rfl, by rfl⟩

set_option maxRecDepth 100000 in
set_option maxHeartbeats 4000000 in
theorem t_X9_isListOrAll {nx : Nat} {h : Nat → Option PC} {v : Int} (ri_v : r32 v) : Cx 2 (0, 0) yX9_isListOrAll cX9_isListOrAll 1 (some .boolean) [zI v] nx h (Rt (zI (bt (v = -1 ∨ (0 ≤ v ∧ v ≤ 2)))) nx []) := by
  refine cx_of pnX9_isListOrAll (Nat.le_of_ble_eq_true rfl) ?_
  intro K G hr hnm hR
  show Wp K 1 (Mx K h (Rt (zI (bt (v = -1 ∨ (0 ≤ v ∧ v ≤ 2)))) nx []) (0, 0)) (0, 0) 0 [(0, zI v)] [] (nx, h, [])
  refine wp_iload_n G 0 dX9_isListOrAll_0 rfl ?_
  refine wp_iconst G dX9_isListOrAll_1 ?_
  refine wp_icmp_eq G dX9_isListOrAll_2 (by omega) (by omega) (fun kq1 => ?_) (fun kq1 => ?_)
  · skip
    refine wp_iconst G dX9_isListOrAll_12 ?_
    refine wp_goto G dX9_isListOrAll_13 ?_
    exact wp_zreturn G (by omega) hr dX9_isListOrAll_17 ⟨by first | rw [bt_1 (by omega)] | rw [bt_0 (by omega)], rfl, by rfl⟩
  · skip
    refine wp_iload_n G 0 dX9_isListOrAll_5 rfl ?_
    refine wp_cSE (as := [zI v]) (rest := []) (hp2 := (nx, h, [])) G mX9_isList lX9_72 sX9_isList dX9_isListOrAll_6 rfl rfl (Nat.le_of_ble_eq_true rfl) (rmx_ok hR (by decide) (by decide) (by decide) (by decide)) (t_X9_isList (nx := nx) (v := v) ri_v) rfl ?_
    refine wp_ifeq_bt G dX9_isListOrAll_9 (fun kq2 => ?_) (fun kq2 => ?_)
    · skip
      refine wp_iconst G dX9_isListOrAll_16 ?_
      exact wp_zreturn G (by omega) hr dX9_isListOrAll_17 ⟨by first | rw [bt_1 (by omega)] | rw [bt_0 (by omega)], rfl, by rfl⟩
    · skip
      refine wp_iconst G dX9_isListOrAll_12 ?_
      refine wp_goto G dX9_isListOrAll_13 ?_
      exact wp_zreturn G (by omega) hr dX9_isListOrAll_17 ⟨by first | rw [bt_1 (by omega)] | rw [bt_0 (by omega)], rfl, by rfl⟩

set_option maxRecDepth 100000 in
set_option maxHeartbeats 4000000 in
theorem t_X9_isStretch {nx : Nat} {h : Nat → Option PC} {v : Int} {w : Int} (ri_v : r32 v) (ri_w : r32 w) : Cx 2 (0, 0) yX9_isStretch cX9_isStretch 2 (some .boolean) [zI v, zI w] nx h (Rt (zI (bt ((0 ≤ v ∧ v ≤ 3999) ∧ (0 ≤ w ∧ w ≤ 3999) ∧ v ≤ w))) nx []) := by
  refine cx_of pnX9_isStretch (Nat.le_of_ble_eq_true rfl) ?_
  intro K G hr hnm hR
  show Wp K 2 (Mx K h (Rt (zI (bt ((0 ≤ v ∧ v ≤ 3999) ∧ (0 ≤ w ∧ w ≤ 3999) ∧ v ≤ w))) nx []) (0, 0)) (0, 0) 0 [(0, zI v), (1, zI w)] [] (nx, h, [])
  refine wp_iload_n G 0 dX9_isStretch_0 rfl ?_
  refine wp_cSE (as := [zI v]) (rest := []) (hp2 := (nx, h, [])) G mX9_isDay lX9_80 sX9_isDay dX9_isStretch_1 rfl rfl (Nat.le_of_ble_eq_true rfl) (rmx_ok hR (by decide) (by decide) (by decide) (by decide)) (t_X9_isDay (nx := nx) (v := v) ri_v) rfl ?_
  refine wp_ifeq_bt G dX9_isStretch_4 (fun kq1 => ?_) (fun kq1 => ?_)
  · skip
    refine wp_iconst G dX9_isStretch_23 ?_
    exact wp_zreturn G (by omega) hr dX9_isStretch_24 ⟨by first | rw [bt_1 (by omega)] | rw [bt_0 (by omega)], rfl, by rfl⟩
  · skip
    refine wp_iload_n G 1 dX9_isStretch_7 rfl ?_
    refine wp_cSE (as := [zI w]) (rest := []) (hp2 := (nx, h, [])) G mX9_isDay lX9_80 sX9_isDay dX9_isStretch_8 rfl rfl (Nat.le_of_ble_eq_true rfl) (rmx_ok hR (by decide) (by decide) (by decide) (by decide)) (t_X9_isDay (nx := nx) (v := w) (by omega)) rfl ?_
    refine wp_ifeq_bt G dX9_isStretch_11 (fun kq2 => ?_) (fun kq2 => ?_)
    · skip
      refine wp_iconst G dX9_isStretch_23 ?_
      exact wp_zreturn G (by omega) hr dX9_isStretch_24 ⟨by first | rw [bt_1 (by omega)] | rw [bt_0 (by omega)], rfl, by rfl⟩
    · skip
      refine wp_iload_n G 0 dX9_isStretch_14 rfl ?_
      refine wp_iload_n G 1 dX9_isStretch_15 rfl ?_
      refine wp_icmp_gt G dX9_isStretch_16 (by omega) (by omega) (fun kq3 => ?_) (fun kq3 => ?_)
      · skip
        refine wp_iconst G dX9_isStretch_23 ?_
        exact wp_zreturn G (by omega) hr dX9_isStretch_24 ⟨by first | rw [bt_1 (by omega)] | rw [bt_0 (by omega)], rfl, by rfl⟩
      · skip
        refine wp_iconst G dX9_isStretch_19 ?_
        refine wp_goto G dX9_isStretch_20 ?_
        exact wp_zreturn G (by omega) hr dX9_isStretch_24 ⟨by first | rw [bt_1 (by omega)] | rw [bt_0 (by omega)], rfl, by rfl⟩

set_option maxRecDepth 100000 in
set_option maxHeartbeats 4000000 in
theorem t_X9_isCell {nx : Nat} {h : Nat → Option PC} {v : Int} {w : Int} (ri_v : r32 v) (ri_w : r32 w) : Cx 1 (0, 0) yX9_isCell cX9_isCell 2 (some .boolean) [zI v, zI w] nx h (Rt (zI (bt ((0 ≤ v ∧ v ≤ 15) ∧ (0 ≤ w ∧ w ≤ 15)))) nx []) := by
  refine cx_of pnX9_isCell (Nat.le_of_ble_eq_true rfl) ?_
  intro K G hr hnm hR
  show Wp K 2 (Mx K h (Rt (zI (bt ((0 ≤ v ∧ v ≤ 15) ∧ (0 ≤ w ∧ w ≤ 15)))) nx []) (0, 0)) (0, 0) 0 [(0, zI v), (1, zI w)] [] (nx, h, [])
  refine wp_iload_n G 0 dX9_isCell_0 rfl ?_
  refine wp_iconst G dX9_isCell_1 ?_
  refine wp_bipush G dX9_isCell_2 (by decide) ?_
  refine wp_cSE (as := [zI v, zI 0, zI 15]) (rest := []) (hp2 := (nx, h, [])) G mX9_within lX9_127 sX9_within dX9_isCell_4 rfl rfl (Nat.le_of_ble_eq_true rfl) (rmx_ok hR (by decide) (by decide) (by decide) (by decide)) (t_X9_within (nx := nx) (v := v) (lo := 0) (hi := 15) ri_v (by omega) (by omega)) rfl ?_
  refine wp_ifeq_bt G dX9_isCell_7 (fun kq1 => ?_) (fun kq1 => ?_)
  · skip
    refine wp_iconst G dX9_isCell_24 ?_
    exact wp_zreturn G (by omega) hr dX9_isCell_25 ⟨by first | rw [bt_1 (by omega)] | rw [bt_0 (by omega)], rfl, by rfl⟩
  · skip
    refine wp_iload_n G 1 dX9_isCell_10 rfl ?_
    refine wp_iconst G dX9_isCell_11 ?_
    refine wp_bipush G dX9_isCell_12 (by decide) ?_
    refine wp_cSE (as := [zI w, zI 0, zI 15]) (rest := []) (hp2 := (nx, h, [])) G mX9_within lX9_127 sX9_within dX9_isCell_14 rfl rfl (Nat.le_of_ble_eq_true rfl) (rmx_ok hR (by decide) (by decide) (by decide) (by decide)) (t_X9_within (nx := nx) (v := w) (lo := 0) (hi := 15) (by omega) (by omega) (by omega)) rfl ?_
    refine wp_ifeq_bt G dX9_isCell_17 (fun kq2 => ?_) (fun kq2 => ?_)
    · skip
      refine wp_iconst G dX9_isCell_24 ?_
      exact wp_zreturn G (by omega) hr dX9_isCell_25 ⟨by first | rw [bt_1 (by omega)] | rw [bt_0 (by omega)], rfl, by rfl⟩
    · skip
      refine wp_iconst G dX9_isCell_20 ?_
      refine wp_goto G dX9_isCell_21 ?_
      exact wp_zreturn G (by omega) hr dX9_isCell_25 ⟨by first | rw [bt_1 (by omega)] | rw [bt_0 (by omega)], rfl, by rfl⟩

set_option maxRecDepth 100000 in
set_option maxHeartbeats 4000000 in
theorem t_X9_asNumber {nx : Nat} {h : Nat → Option PC} {P : Prop}  : Cx 0 (0, 0) yX9_asNumber cX9_asNumber 1 (some .int) [zI (bt P)] nx h (Rt (zI (bt P)) nx []) := by
  refine cx_of pnX9_asNumber (Nat.le_of_ble_eq_true rfl) ?_
  intro K G hr hnm hR
  show Wp K 1 (Mx K h (Rt (zI (bt P)) nx []) (0, 0)) (0, 0) 0 [(0, zI (bt P))] [] (nx, h, [])
  refine wp_iload_n G 0 dX9_asNumber_0 rfl ?_
  refine wp_ifeq_bt G dX9_asNumber_1 (fun kq1 => ?_) (fun kq1 => ?_)
  · skip
    refine wp_iconst G dX9_asNumber_8 ?_
    exact wp_ireturn G hr dX9_asNumber_9 ⟨by first | rw [bt_1 ‹_›] | rw [bt_0 ‹_›], rfl, by rfl⟩
  · skip
    refine wp_iconst G dX9_asNumber_4 ?_
    refine wp_goto G dX9_asNumber_5 ?_
    exact wp_ireturn G hr dX9_asNumber_9 ⟨by first | rw [bt_1 ‹_›] | rw [bt_0 ‹_›], rfl, by rfl⟩

set_option maxRecDepth 100000 in
set_option maxHeartbeats 4000000 in
theorem t_X9_howFar {nx : Nat} {h : Nat → Option PC} {a : Int} {b : Int} {c : Int} {e : Int} (ha : 0 ≤ a ∧ a ≤ 15) (hb : 0 ≤ b ∧ b ≤ 15) (hc : 0 ≤ c ∧ c ≤ 15) (he : 0 ≤ e ∧ e ≤ 15) : Cx 1 (0, 0) yX9_howFar cX9_howFar 4 (some .int) [zI a, zI b, zI c, zI e] nx h (Rt (zI (farZ a b c e)) nx []) := by
  refine cx_of pnX9_howFar (Nat.le_of_ble_eq_true rfl) ?_
  intro K G hr hnm hR
  show Wp K 4 (Mx K h (Rt (zI (farZ a b c e)) nx []) (0, 0)) (0, 0) 0 [(0, zI a), (1, zI b), (2, zI c), (3, zI e)] [] (nx, h, [])
  refine wp_iload_n G 0 dX9_howFar_0 rfl ?_
  refine wp_iload_n G 2 dX9_howFar_1 rfl ?_
  refine wp_isub G dX9_howFar_2 ?_
  refine wp_mabs G (by omega) lX9_318 sJ9_abs_0f7a4 mJ9_abs_0f7a4.1 mJ9_abs_0f7a4.2.1 dX9_howFar_3 (Nat.le_of_ble_eq_true rfl) (rmx_ok (maxL := 2) hR (by decide) (by decide) (by decide) (by decide)) ?_
  refine wp_iload_n G 1 dX9_howFar_6 rfl ?_
  refine wp_iload_n G 3 dX9_howFar_7 rfl ?_
  refine wp_isub G dX9_howFar_8 ?_
  refine wp_mabs G (by omega) lX9_318 sJ9_abs_0f7a4 mJ9_abs_0f7a4.1 mJ9_abs_0f7a4.2.1 dX9_howFar_9 (Nat.le_of_ble_eq_true rfl) (rmx_ok (maxL := 2) hR (by decide) (by decide) (by decide) (by decide)) ?_
  refine wp_mmax G (by omega) (by omega) lX9_323 sJ9_max_7cf53 mJ9_max_7cf53.1 mJ9_max_7cf53.2.1 dX9_howFar_12 (Nat.le_of_ble_eq_true rfl) (rmx_ok (maxL := 2) hR (by decide) (by decide) (by decide) (by decide)) ?_
  exact wp_ireturn G hr dX9_howFar_15 ⟨by rfl, rfl, by rfl⟩

set_option maxRecDepth 100000 in
set_option maxHeartbeats 4000000 in
theorem t_X6_isFull {nx : Nat} {h : Nat → Option PC} {n : Nat} {q : Nat → Nat → Int} {o : Nat → Nat} (hQ : isQ h n q o) (hO : okQ n q o) : Cx 0 (0, 0) yX6_isFull cX6_isFull 1 (some .boolean) [zR 2] nx h (Rt (zI (bt (40 ≤ n))) nx []) := by
  refine cx_of pnX6_isFull (Nat.le_of_ble_eq_true rfl) ?_
  intro K G hr hnm hR
  obtain ⟨h2, h3, h4, h5, h6, h7, h8, h9, h10⟩ := id hQ
  have hn40 := hO.1
  show Wp K 1 (Mx K h (Rt (zI (bt (40 ≤ n))) nx []) (0, 0)) (0, 0) 0 [(0, zR 2)] [] (nx, h, [])
  refine wp_aload_n G 0 dX6_isFull_0 rfl ?_
  refine wp_get G 0 cOk5 fX6_9 dX6_isFull_1 h2 rfl ?_
  refine wp_bipush G dX6_isFull_4 (by decide) ?_
  refine wp_icmp_lt G dX6_isFull_6 (by omega) (by omega) (fun kq1 => ?_) (fun kq1 => ?_)
  · skip
    refine wp_iconst G dX6_isFull_13 ?_
    exact wp_zreturn G (by omega) hr dX6_isFull_14 ⟨by first | rw [bt_1 (by omega)] | rw [bt_0 (by omega)], rfl, by rfl⟩
  · skip
    refine wp_iconst G dX6_isFull_9 ?_
    refine wp_goto G dX6_isFull_10 ?_
    exact wp_zreturn G (by omega) hr dX6_isFull_14 ⟨by first | rw [bt_1 (by omega)] | rw [bt_0 (by omega)], rfl, by rfl⟩

set_option maxRecDepth 100000 in
set_option maxHeartbeats 4000000 in
theorem t_X6_has {nx : Nat} {h : Nat → Option PC} {n : Nat} {q : Nat → Nat → Int} {o : Nat → Nat} {v : Int} (hQ : isQ h n q o) (hO : okQ n q o) (ri_v : r32 v) : Cx 0 (0, 0) yX6_has cX6_has 2 (some .boolean) [zR 2, zI v] nx h (Rt (zI (bt (0 ≤ v ∧ v < ((n : Nat) : Int)))) nx []) := by
  refine cx_of pnX6_has (Nat.le_of_ble_eq_true rfl) ?_
  intro K G hr hnm hR
  obtain ⟨h2, h3, h4, h5, h6, h7, h8, h9, h10⟩ := id hQ
  have hn40 := hO.1
  show Wp K 2 (Mx K h (Rt (zI (bt (0 ≤ v ∧ v < ((n : Nat) : Int)))) nx []) (0, 0)) (0, 0) 0 [(0, zR 2), (1, zI v)] [] (nx, h, [])
  refine wp_iload_n G 1 dX6_has_0 rfl ?_
  refine wp_if_lt G dX6_has_1 (by omega) (fun kq1 => ?_) (fun kq1 => ?_)
  · skip
    refine wp_iconst G dX6_has_16 ?_
    exact wp_zreturn G (by omega) hr dX6_has_17 ⟨by first | rw [bt_1 (by omega)] | rw [bt_0 (by omega)], rfl, by rfl⟩
  · skip
    refine wp_iload_n G 1 dX6_has_4 rfl ?_
    refine wp_aload_n G 0 dX6_has_5 rfl ?_
    refine wp_get G 0 cOk5 fX6_9 dX6_has_6 h2 rfl ?_
    refine wp_icmp_ge G dX6_has_9 (by omega) (by omega) (fun kq2 => ?_) (fun kq2 => ?_)
    · skip
      refine wp_iconst G dX6_has_16 ?_
      exact wp_zreturn G (by omega) hr dX6_has_17 ⟨by first | rw [bt_1 (by omega)] | rw [bt_0 (by omega)], rfl, by rfl⟩
    · skip
      refine wp_iconst G dX6_has_12 ?_
      refine wp_goto G dX6_has_13 ?_
      exact wp_zreturn G (by omega) hr dX6_has_17 ⟨by first | rw [bt_1 (by omega)] | rw [bt_0 (by omega)], rfl, by rfl⟩

set_option maxRecDepth 100000 in
set_option maxHeartbeats 4000000 in
theorem t_X6_isCounted {nx : Nat} {h : Nat → Option PC} {n : Nat} {q : Nat → Nat → Int} {o : Nat → Nat} {j : Nat} {a : Int} {b : Int} (hQ : isQ h n q o) (hO : okQ n q o) (hj : j < n) (ri_a : r32 a) (ri_b : r32 b) : Cx 0 (0, 0) yX6_isCounted cX6_isCounted 4 (some .boolean) [zR 2, zI ((j : Nat) : Int), zI a, zI b] nx h (Rt (zI (bt (cnd q a b j))) nx []) := by
  refine cx_of pnX6_isCounted (Nat.le_of_ble_eq_true rfl) ?_
  intro K G hr hnm hR
  obtain ⟨h2, h3, h4, h5, h6, h7, h8, h9, h10⟩ := id hQ
  have hn40 := hO.1
  show Wp K 4 (Mx K h (Rt (zI (bt (cnd q a b j))) nx []) (0, 0)) (0, 0) 0 [(0, zR 2), (1, zI ((j : Nat) : Int)), (2, zI a), (3, zI b)] [] (nx, h, [])
  refine wp_aload_n G 0 dX6_isCounted_0 rfl ?_
  refine wp_get G 7 cOk5 fX6_34 dX6_isCounted_1 h2 rfl ?_
  refine wp_iload_n G 1 dX6_isCounted_4 rfl ?_
  refine wp_zald (j := j) G dX6_isCounted_5 h9 rfl (by omega) (by decide) ?_
  have rrq1 := hO.b j (by omega)
  refine wp_if_ne G dX6_isCounted_6 (by omega) (fun kq1 => ?_) (fun kq1 => ?_)
  · skip
    refine wp_iconst G dX6_isCounted_38 ?_
    exact wp_zreturn G (by omega) hr dX6_isCounted_39 ⟨by first | rw [bt_1 (by unfold cnd; omega)] | rw [bt_0 (by unfold cnd; omega)], rfl, by rfl⟩
  · skip
    refine wp_aload_n G 0 dX6_isCounted_9 rfl ?_
    refine wp_get G 6 cOk5 fX6_31 dX6_isCounted_10 h2 rfl ?_
    refine wp_iload_n G 1 dX6_isCounted_13 rfl ?_
    refine wp_iald (j := j) G dX6_isCounted_14 h8 rfl (by omega) (by decide) ?_
    have rrq2 := hO.t j (by omega)
    refine wp_iload_n G 3 dX6_isCounted_15 rfl ?_
    refine wp_icmp_gt G dX6_isCounted_16 (by omega) (by omega) (fun kq2 => ?_) (fun kq2 => ?_)
    · skip
      refine wp_iconst G dX6_isCounted_38 ?_
      exact wp_zreturn G (by omega) hr dX6_isCounted_39 ⟨by first | rw [bt_1 (by unfold cnd; omega)] | rw [bt_0 (by unfold cnd; omega)], rfl, by rfl⟩
    · skip
      refine wp_iload_n G 2 dX6_isCounted_19 rfl ?_
      refine wp_iconst G dX6_isCounted_20 ?_
      refine wp_icmp_eq G dX6_isCounted_21 (by omega) (by omega) (fun kq3 => ?_) (fun kq3 => ?_)
      · skip
        refine wp_iconst G dX6_isCounted_34 ?_
        refine wp_goto G dX6_isCounted_35 ?_
        exact wp_zreturn G (by omega) hr dX6_isCounted_39 ⟨by first | rw [bt_1 (by unfold cnd; omega)] | rw [bt_0 (by unfold cnd; omega)], rfl, by rfl⟩
      · skip
        refine wp_aload_n G 0 dX6_isCounted_24 rfl ?_
        refine wp_get G 1 cOk5 fX6_15 dX6_isCounted_25 h2 rfl ?_
        refine wp_iload_n G 1 dX6_isCounted_28 rfl ?_
        refine wp_iald (j := j) G dX6_isCounted_29 h3 rfl (by omega) (by decide) ?_
        have rrq3 := hO.l j (by omega)
        refine wp_iload_n G 2 dX6_isCounted_30 rfl ?_
        refine wp_icmp_ne G dX6_isCounted_31 (by omega) (by omega) (fun kq4 => ?_) (fun kq4 => ?_)
        · skip
          refine wp_iconst G dX6_isCounted_38 ?_
          exact wp_zreturn G (by omega) hr dX6_isCounted_39 ⟨by first | rw [bt_1 (by unfold cnd; omega)] | rw [bt_0 (by unfold cnd; omega)], rfl, by rfl⟩
        · skip
          refine wp_iconst G dX6_isCounted_34 ?_
          refine wp_goto G dX6_isCounted_35 ?_
          exact wp_zreturn G (by omega) hr dX6_isCounted_39 ⟨by first | rw [bt_1 (by unfold cnd; omega)] | rw [bt_0 (by unfold cnd; omega)], rfl, by rfl⟩

set_option maxRecDepth 100000 in
set_option maxHeartbeats 4000000 in
theorem t_X6_isGreat {nx : Nat} {h : Nat → Option PC} {n : Nat} {q : Nat → Nat → Int} {o : Nat → Nat} {j : Nat} {m : Int} (hQ : isQ h n q o) (hO : okQ n q o) (hj : j < n) (ri_m : r32 m) : Cx 0 (0, 0) yX6_isGreat cX6_isGreat 3 (some .boolean) [zR 2, zI ((j : Nat) : Int), zI m] nx h (Rt (zI (bt (grt q m j))) nx []) := by
  refine cx_of pnX6_isGreat (Nat.le_of_ble_eq_true rfl) ?_
  intro K G hr hnm hR
  obtain ⟨h2, h3, h4, h5, h6, h7, h8, h9, h10⟩ := id hQ
  have hn40 := hO.1
  show Wp K 3 (Mx K h (Rt (zI (bt (grt q m j))) nx []) (0, 0)) (0, 0) 0 [(0, zR 2), (1, zI ((j : Nat) : Int)), (2, zI m)] [] (nx, h, [])
  refine wp_aload_n G 0 dX6_isGreat_0 rfl ?_
  refine wp_get G 7 cOk5 fX6_34 dX6_isGreat_1 h2 rfl ?_
  refine wp_iload_n G 1 dX6_isGreat_4 rfl ?_
  refine wp_zald (j := j) G dX6_isGreat_5 h9 rfl (by omega) (by decide) ?_
  have rrq1 := hO.b j (by omega)
  refine wp_if_ne G dX6_isGreat_6 (by omega) (fun kq1 => ?_) (fun kq1 => ?_)
  · skip
    refine wp_iconst G dX6_isGreat_23 ?_
    exact wp_zreturn G (by omega) hr dX6_isGreat_24 ⟨by first | rw [bt_1 (by unfold grt; omega)] | rw [bt_0 (by unfold grt; omega)], rfl, by rfl⟩
  · skip
    refine wp_aload_n G 0 dX6_isGreat_9 rfl ?_
    refine wp_get G 5 cOk5 fX6_28 dX6_isGreat_10 h2 rfl ?_
    refine wp_iload_n G 1 dX6_isGreat_13 rfl ?_
    refine wp_iald (j := j) G dX6_isGreat_14 h7 rfl (by omega) (by decide) ?_
    have rrq2 := hO.g j (by omega)
    refine wp_iload_n G 2 dX6_isGreat_15 rfl ?_
    refine wp_icmp_lt G dX6_isGreat_16 (by omega) (by omega) (fun kq2 => ?_) (fun kq2 => ?_)
    · skip
      refine wp_iconst G dX6_isGreat_23 ?_
      exact wp_zreturn G (by omega) hr dX6_isGreat_24 ⟨by first | rw [bt_1 (by unfold grt; omega)] | rw [bt_0 (by unfold grt; omega)], rfl, by rfl⟩
    · skip
      refine wp_iconst G dX6_isGreat_19 ?_
      refine wp_goto G dX6_isGreat_20 ?_
      exact wp_zreturn G (by omega) hr dX6_isGreat_24 ⟨by first | rw [bt_1 (by unfold grt; omega)] | rw [bt_0 (by unfold grt; omega)], rfl, by rfl⟩

set_option maxRecDepth 100000 in
set_option maxHeartbeats 4000000 in
theorem t_X6_howManyIn {nx : Nat} {h : Nat → Option PC} {n : Nat} {q : Nat → Nat → Int} {o : Nat → Nat} {a : Int} (hQ : isQ h n q o) (hO : okQ n q o) (ri_a : r32 a) : Cx 0 (0, 0) yX6_howManyIn cX6_howManyIn 4 (some .int) [zR 2, zI a] nx h (Rt (zI (cntZ (fun j => q 0 j = a) n)) nx []) := by
  refine cx_of pnX6_howManyIn (Nat.le_of_ble_eq_true rfl) ?_
  intro K G hr hnm hR
  obtain ⟨h2, h3, h4, h5, h6, h7, h8, h9, h10⟩ := id hQ
  have hn40 := hO.1
  show Wp K 4 (Mx K h (Rt (zI (cntZ (fun j => q 0 j = a) n)) nx []) (0, 0)) (0, 0) 0 [(0, zR 2), (1, zI a)] [] (nx, h, [])
  refine wp_iconst G dX6_howManyIn_0 ?_
  refine wp_istore_n (lv' := [(2, zI 0), (0, zR 2), (1, zI a)]) G dX6_howManyIn_1 (by decide) rfl ?_
  refine wp_iconst G dX6_howManyIn_2 ?_
  refine wp_istore_n (lv' := [(3, zI 0), (2, zI 0), (0, zR 2), (1, zI a)]) G dX6_howManyIn_3 (by decide) rfl ?_
  refine wp_lv [2, 3, 1, 0] rfl ?_
  suffices lp4 : ∀ (fu : Nat) (k : Nat) (v2 : Int) (v3 : Int), n - k < fu → (v2 = cntZ (fun j => q 0 j = a) k) → (v3 = ((k : Nat) : Int)) → (k ≤ n) → Wp K 4 (Mx K h (Rt (zI (cntZ (fun j => q 0 j = a) n)) nx []) (0, 0)) (0, 0) 4 [(0, zR 2), (1, zI a), (2, zI v2), (3, zI v3)] [] (nx, h, []) from lp4 _ 0 0 0 (Nat.lt_succ_self _) (by rfl) (by omega) (by omega)
  intro fu
  induction fu with
  | zero => intro k v2 v3 hm; exact absurd hm (Nat.not_lt_zero _)
  | succ fu ih4 =>
    intro k v2 v3 hm4 e2 e3 hi0
    subst e2
    subst e3
    refine wp_iload_n G 3 dX6_howManyIn_4 rfl ?_
    refine wp_aload_n G 0 dX6_howManyIn_5 rfl ?_
    refine wp_get G 0 cOk5 fX6_9 dX6_howManyIn_6 h2 rfl ?_
    refine wp_icmp_ge G dX6_howManyIn_9 (by omega) (by omega) (fun kq1 => ?_) (fun kq1 => ?_)
    · skip
      refine wp_iload_n G 2 dX6_howManyIn_31 rfl ?_
      exact wp_ireturn G hr dX6_howManyIn_32 ⟨by rw [show k = n by omega], rfl, by rfl⟩
    · skip
      refine wp_aload_n G 0 dX6_howManyIn_12 rfl ?_
      refine wp_get G 1 cOk5 fX6_15 dX6_howManyIn_13 h2 rfl ?_
      refine wp_iload_n G 3 dX6_howManyIn_16 rfl ?_
      refine wp_iald (j := k) G dX6_howManyIn_17 h3 rfl (by omega) (by decide) ?_
      have rrq1 := hO.l k (by omega)
      refine wp_iload_n G 1 dX6_howManyIn_18 rfl ?_
      refine wp_icmp_ne G dX6_howManyIn_19 (by omega) (by omega) (fun kq2 => ?_) (fun kq2 => ?_)
      · skip
        refine wp_iinc (lv' := [(3, zI (((k : Nat) : Int) + 1)), (0, zR 2), (1, zI a), (2, zI (cntZ (fun j => q 0 j = a) k))]) G 3 dX6_howManyIn_25 rfl (by decide) rfl ?_
        refine wp_goto G dX6_howManyIn_28 ?_
        refine wp_lv [1, 2, 3, 0] rfl ?_
        exact ih4 (k + 1) (cntZ (fun j => q 0 j = a) k) (((k : Nat) : Int) + 1) (by omega) (by first | rw [cntZ_y (by omega)] | rw [cntZ_n (by omega)]) (by omega) (by omega)
      · skip
        refine wp_iinc (lv' := [(2, zI (cntZ (fun j => q 0 j = a) k + 1)), (0, zR 2), (1, zI a), (3, zI ((k : Nat) : Int))]) G 2 dX6_howManyIn_22 rfl (by decide) rfl ?_
        refine wp_iinc (lv' := [(3, zI (((k : Nat) : Int) + 1)), (2, zI (cntZ (fun j => q 0 j = a) k + 1)), (0, zR 2), (1, zI a)]) G 3 dX6_howManyIn_25 rfl (by decide) rfl ?_
        refine wp_goto G dX6_howManyIn_28 ?_
        refine wp_lv [2, 3, 1, 0] rfl ?_
        exact ih4 (k + 1) (cntZ (fun j => q 0 j = a) k + 1) (((k : Nat) : Int) + 1) (by omega) (by first | rw [cntZ_y (by omega)] | rw [cntZ_n (by omega)]) (by omega) (by omega)

set_option maxRecDepth 100000 in
set_option maxHeartbeats 4000000 in
theorem t_X6_howManyBlasts {nx : Nat} {h : Nat → Option PC} {n : Nat} {q : Nat → Nat → Int} {o : Nat → Nat} (hQ : isQ h n q o) (hO : okQ n q o) : Cx 0 (0, 0) yX6_howManyBlasts cX6_howManyBlasts 3 (some .int) [zR 2] nx h (Rt (zI (cntZ (fun j => q 6 j = 1) n)) nx []) := by
  refine cx_of pnX6_howManyBlasts (Nat.le_of_ble_eq_true rfl) ?_
  intro K G hr hnm hR
  obtain ⟨h2, h3, h4, h5, h6, h7, h8, h9, h10⟩ := id hQ
  have hn40 := hO.1
  show Wp K 3 (Mx K h (Rt (zI (cntZ (fun j => q 6 j = 1) n)) nx []) (0, 0)) (0, 0) 0 [(0, zR 2)] [] (nx, h, [])
  refine wp_iconst G dX6_howManyBlasts_0 ?_
  refine wp_istore_n (lv' := [(1, zI 0), (0, zR 2)]) G dX6_howManyBlasts_1 (by decide) rfl ?_
  refine wp_iconst G dX6_howManyBlasts_2 ?_
  refine wp_istore_n (lv' := [(2, zI 0), (1, zI 0), (0, zR 2)]) G dX6_howManyBlasts_3 (by decide) rfl ?_
  refine wp_lv [2, 1, 0] rfl ?_
  suffices lp4 : ∀ (fu : Nat) (k : Nat) (v1 : Int) (v2 : Int), n - k < fu → (v1 = cntZ (fun j => q 6 j = 1) k) → (v2 = ((k : Nat) : Int)) → (k ≤ n) → Wp K 3 (Mx K h (Rt (zI (cntZ (fun j => q 6 j = 1) n)) nx []) (0, 0)) (0, 0) 4 [(0, zR 2), (1, zI v1), (2, zI v2)] [] (nx, h, []) from lp4 _ 0 0 0 (Nat.lt_succ_self _) (by rfl) (by omega) (by omega)
  intro fu
  induction fu with
  | zero => intro k v1 v2 hm; exact absurd hm (Nat.not_lt_zero _)
  | succ fu ih4 =>
    intro k v1 v2 hm4 e1 e2 hi0
    subst e1
    subst e2
    refine wp_iload_n G 2 dX6_howManyBlasts_4 rfl ?_
    refine wp_aload_n G 0 dX6_howManyBlasts_5 rfl ?_
    refine wp_get G 0 cOk5 fX6_9 dX6_howManyBlasts_6 h2 rfl ?_
    refine wp_icmp_ge G dX6_howManyBlasts_9 (by omega) (by omega) (fun kq1 => ?_) (fun kq1 => ?_)
    · skip
      refine wp_iload_n G 1 dX6_howManyBlasts_30 rfl ?_
      exact wp_ireturn G hr dX6_howManyBlasts_31 ⟨by rw [show k = n by omega], rfl, by rfl⟩
    · skip
      refine wp_aload_n G 0 dX6_howManyBlasts_12 rfl ?_
      refine wp_get G 7 cOk5 fX6_34 dX6_howManyBlasts_13 h2 rfl ?_
      refine wp_iload_n G 2 dX6_howManyBlasts_16 rfl ?_
      refine wp_zald (j := k) G dX6_howManyBlasts_17 h9 rfl (by omega) (by decide) ?_
      have rrq1 := hO.b k (by omega)
      refine wp_if_eq G dX6_howManyBlasts_18 (by omega) (fun kq2 => ?_) (fun kq2 => ?_)
      · skip
        refine wp_iinc (lv' := [(2, zI (((k : Nat) : Int) + 1)), (0, zR 2), (1, zI (cntZ (fun j => q 6 j = 1) k))]) G 2 dX6_howManyBlasts_24 rfl (by decide) rfl ?_
        refine wp_goto G dX6_howManyBlasts_27 ?_
        refine wp_lv [1, 2, 0] rfl ?_
        exact ih4 (k + 1) (cntZ (fun j => q 6 j = 1) k) (((k : Nat) : Int) + 1) (by omega) (by first | rw [cntZ_y (by omega)] | rw [cntZ_n (by omega)]) (by omega) (by omega)
      · skip
        refine wp_iinc (lv' := [(1, zI (cntZ (fun j => q 6 j = 1) k + 1)), (0, zR 2), (2, zI ((k : Nat) : Int))]) G 1 dX6_howManyBlasts_21 rfl (by decide) rfl ?_
        refine wp_iinc (lv' := [(2, zI (((k : Nat) : Int) + 1)), (1, zI (cntZ (fun j => q 6 j = 1) k + 1)), (0, zR 2)]) G 2 dX6_howManyBlasts_24 rfl (by decide) rfl ?_
        refine wp_goto G dX6_howManyBlasts_27 ?_
        refine wp_lv [2, 1, 0] rfl ?_
        exact ih4 (k + 1) (cntZ (fun j => q 6 j = 1) k + 1) (((k : Nat) : Int) + 1) (by omega) (by first | rw [cntZ_y (by omega)] | rw [cntZ_n (by omega)]) (by omega) (by omega)

