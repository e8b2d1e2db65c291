
def isMo (h : Nat → Option PC) (pr fa sp fo de : Nat → Int) : Prop := h 36 = some (oO 4 [zR 37, zR 38, zR 39, zR 40, zR 41]) ∧ h 37 = some (oA 0 10 pr) ∧ h 38 = some (oA 0 8 fa) ∧ h 39 = some (oA 0 8 sp) ∧ h 40 = some (oA 0 40 fo) ∧ h 41 = some (oA 0 40 de)

set_option maxRecDepth 100000 in
set_option maxHeartbeats 4000000 in
theorem t_X4_fadeStep {nx : Nat} {h : Nat → Option PC} {d : Int} (ri_d : r32 d) : Cx 0 (0, 0) yX4_fadeStep cX4_fadeStep 3 (some .int) [zI d] nx h (Rt (zI ((fsN 7 d : Nat) : Int)) nx []) := by
  refine cx_of pnX4_fadeStep (Nat.le_of_ble_eq_true rfl) ?_
  intro K G hr hnm hR
  show Wp K 3 (Mx K h (Rt (zI ((fsN 7 d : Nat) : Int)) nx []) (0, 0)) (0, 0) 0 [(0, zI d)] [] (nx, h, [])
  refine wp_iconst G dX4_fadeStep_0 ?_
  refine wp_istore_n (lv' := [(1, zI 0), (0, zI d)]) G dX4_fadeStep_1 (by decide) rfl ?_
  refine wp_iload_n G 1 dX4_fadeStep_2 rfl ?_
  refine wp_istore_n (lv' := [(2, zI d), (1, zI 0), (0, zI d)]) G dX4_fadeStep_3 (by decide) rfl ?_
  refine wp_lv [2, 1, 0] rfl ?_
  suffices lp4 : ∀ (fu : Nat) (s : Nat) (v1 : Int) (v2 : Int), 7 - s < fu → (v1 = ((s : Nat) : Int)) → (s ≤ 7) → (r32 v2) → (s + fsN (7 - s) v2 = fsN 7 d) → Wp K 3 (Mx K h (Rt (zI ((fsN 7 d : Nat) : Int)) nx []) (0, 0)) (0, 0) 4 [(0, zI d), (1, zI v1), (2, zI v2)] [] (nx, h, []) from lp4 _ 0 0 d (Nat.lt_succ_self _) (by omega) (by omega) (by omega) (by simp)
  intro fu
  induction fu with
  | zero => intro s v1 v2 hm; exact absurd hm (Nat.not_lt_zero _)
  | succ fu ih4 =>
    intro s v1 v2 hm4 e1 hi0 hi1 hf
    subst e1
    refine wp_iload_n G 2 dX4_fadeStep_4 rfl ?_
    refine wp_if_le G dX4_fadeStep_5 (by omega) (fun kq1 => ?_) (fun kq1 => ?_)
    · skip
      refine wp_iload_n G 1 dX4_fadeStep_24 rfl ?_
      exact wp_ireturn G hr dX4_fadeStep_25 ⟨by rw [← hf, fsN_n (s := s) (l := v2) (by omega)]; rfl, rfl, by rfl⟩
    · skip
      refine wp_iload_n G 1 dX4_fadeStep_8 rfl ?_
      refine wp_bipush G dX4_fadeStep_9 (by decide) ?_
      refine wp_icmp_ge G dX4_fadeStep_11 (by omega) (by omega) (fun kq2 => ?_) (fun kq2 => ?_)
      · skip
        refine wp_iload_n G 1 dX4_fadeStep_24 rfl ?_
        exact wp_ireturn G hr dX4_fadeStep_25 ⟨by rw [← hf, fsN_n (s := s) (l := v2) (by omega)]; rfl, rfl, by rfl⟩
      · skip
        refine wp_iinc (lv' := [(1, zI (((s : Nat) : Int) + 1)), (0, zI d), (2, zI v2)]) G 1 dX4_fadeStep_14 rfl (by decide) rfl ?_
        refine wp_iload_n G 2 dX4_fadeStep_17 rfl ?_
        refine wp_iconst G dX4_fadeStep_18 ?_
        refine wp_idiv G (by omega) (by omega) (by omega) (by omega) dX4_fadeStep_19 ?_
        refine wp_istore_n (lv' := [(2, zI (v2 / 2)), (1, zI (((s : Nat) : Int) + 1)), (0, zI d)]) G dX4_fadeStep_20 (by decide) rfl ?_
        refine wp_goto G dX4_fadeStep_21 ?_
        refine wp_lv [2, 1, 0] rfl ?_
        exact ih4 (s + 1) (((s : Nat) : Int) + 1) (v2 / 2) (by omega) (by omega) (by omega) (by omega) (by have hfy := fsN_y (s := s) (l := v2) (by omega) (by omega); omega)

set_option maxRecDepth 100000 in
set_option maxHeartbeats 4000000 in
theorem t_X4_weightAt {nx : Nat} {h : Nat → Option PC} {n : Nat} {q : Nat → Nat → Int} {o : Nat → Nat} {pr : Nat → Int} {fa : Nat → Int} {sp : Nat → Int} {fo : Nat → Int} {de : Nat → Int} {i : Nat} {x : Int} {y : Int} {d : Int} (hQ : isQ h n q o) (hO : okQ n q o) (hM : isMo h pr fa sp fo de) (hS : okS pr fa sp) (hi : i < n) (hx : 0 ≤ x ∧ x ≤ 15) (hy : 0 ≤ y ∧ y ≤ 15) (hd : 0 ≤ d ∧ d ≤ 3999) : Cx 2 (0, 0) yX4_weightAt cX4_weightAt 7 (some .int) [zR 36, zR 2, zI ((i : Nat) : Int), zI x, zI y, zI d] nx h (Rt (zI (wgt pr fa sp q i x y d)) nx []) := by
  refine cx_of pnX4_weightAt (Nat.le_of_ble_eq_true rfl) ?_
  intro K G hr hnm hR
  obtain ⟨h2, h3, h4, h5, h6, h7, h8, h9, h10⟩ := id hQ
  have hn40 := hO.1
  obtain ⟨h36, h37, h38, h39, h40, h41⟩ := id hM
  have hxi := hO.x i hi
  have hyi := hO.y i hi
  have hfar := farZ_b hx hy hxi hyi
  have hdi := hO.d i hi
  have hgi := hO.g i hi
  have hfs := fsN_le 7 (d - q 1 i)
  show Wp K 7 (Mx K h (Rt (zI (wgt pr fa sp q i x y d)) nx []) (0, 0)) (0, 0) 0 [(0, zR 36), (1, zR 2), (2, zI ((i : Nat) : Int)), (3, zI x), (4, zI y), (5, zI d)] [] (nx, h, [])
  refine wp_bipush G dX4_weightAt_0 (by decide) ?_
  refine wp_iload_n G 3 dX4_weightAt_2 rfl ?_
  refine wp_iload G 4 dX4_weightAt_3 rfl ?_
  refine wp_aload_n G 1 dX4_weightAt_5 rfl ?_
  refine wp_get G 3 cOk5 fX4_29 dX4_weightAt_6 h2 rfl ?_
  refine wp_iload_n G 2 dX4_weightAt_9 rfl ?_
  refine wp_iald (j := i) G dX4_weightAt_10 h5 rfl (by omega) (by decide) ?_
  have rrq1 := hO.x i (by omega)
  refine wp_aload_n G 1 dX4_weightAt_11 rfl ?_
  refine wp_get G 4 cOk5 fX4_32 dX4_weightAt_12 h2 rfl ?_
  refine wp_iload_n G 2 dX4_weightAt_15 rfl ?_
  refine wp_iald (j := i) G dX4_weightAt_16 h6 rfl (by omega) (by decide) ?_
  have rrq2 := hO.y i (by omega)
  refine wp_cSE (as := [zI x, zI y, zI ((q 2) i), zI ((q 3) i)]) (rest := [zI 7]) (hp2 := (nx, h, [])) G mX9_howFar lX4_35 sX9_howFar dX4_weightAt_17 rfl rfl (Nat.le_of_ble_eq_true rfl) (rmx_ok hR (by decide) (by decide) (by decide) (by decide)) (t_X9_howFar (nx := nx) (a := x) (b := y) (c := ((q 2) i)) (e := ((q 3) i)) hx hy hxi hyi) rfl ?_
  refine wp_mmin G (by omega) (by omega) lX4_39 sJ9_min_7cf53 mJ9_min_7cf53.1 mJ9_min_7cf53.2.1 dX4_weightAt_20 (Nat.le_of_ble_eq_true rfl) (rmx_ok (maxL := 2) hR (by decide) (by decide) (by decide) (by decide)) ?_
  refine wp_istore (lv' := [(6, zI (min 7 (farZ x y ((q 2) i) ((q 3) i)))), (0, zR 36), (1, zR 2), (2, zI ((i : Nat) : Int)), (3, zI x), (4, zI y), (5, zI d)]) G dX4_weightAt_23 (by decide) rfl ?_
  refine wp_aload_n G 1 dX4_weightAt_25 rfl ?_
  refine wp_get G 0 cOk4 fX4_9 dX4_weightAt_26 h36 rfl ?_
  refine wp_aload_n G 2 dX4_weightAt_29 rfl ?_
  refine wp_get G 5 cOk5 fX4_45 dX4_weightAt_30 h2 rfl ?_
  refine wp_iload_n G 3 dX4_weightAt_33 rfl ?_
  refine wp_iald (j := i) G dX4_weightAt_34 h7 rfl (by omega) (by decide) ?_
  have rrq3 := hO.g i (by omega)
  refine wp_bipush G dX4_weightAt_35 (by decide) ?_
  refine wp_idiv G (by omega) (by omega) (by omega) (by omega) dX4_weightAt_37 ?_
  refine wp_iald (j := ((((q 4) i) / 10)).toNat) G dX4_weightAt_38 h37 (by omega) (by omega) (by decide) ?_
  have rrq4 := hS.1 (((((q 4) i) / 10)).toNat) (by omega)
  refine wp_aload_n G 1 dX4_weightAt_39 rfl ?_
  refine wp_get G 1 cOk4 fX4_15 dX4_weightAt_40 h36 rfl ?_
  refine wp_iload G 6 dX4_weightAt_43 rfl ?_
  refine wp_aload_n G 2 dX4_weightAt_45 rfl ?_
  refine wp_get G 2 cOk5 fX4_48 dX4_weightAt_46 h2 rfl ?_
  refine wp_iload_n G 3 dX4_weightAt_49 rfl ?_
  refine wp_iald (j := i) G dX4_weightAt_50 h4 rfl (by omega) (by decide) ?_
  have rrq5 := hO.d i (by omega)
  refine wp_isub G dX4_weightAt_51 ?_
  refine wp_cSE (as := [zI (d - ((q 1) i))]) (rest := [zR 38, zI (pr (((((q 4) i) / 10)).toNat))]) (hp2 := (nx, h, [])) G mX4_fadeStep lX4_51 sX4_fadeStep dX4_weightAt_52 rfl rfl (Nat.le_of_ble_eq_true rfl) (rmx_ok hR (by decide) (by decide) (by decide) (by decide)) (t_X4_fadeStep (nx := nx) (d := (d - ((q 1) i))) (by omega)) rfl ?_
  refine wp_iald (j := fsN 7 (d - ((q 1) i))) G dX4_weightAt_55 h38 rfl (by omega) (by decide) ?_
  have rrq6 := hS.2.1 (fsN 7 (d - ((q 1) i))) (by omega)
  refine wp_imul G dX4_weightAt_56 ?_
  refine wp_aload_n G 1 dX4_weightAt_57 rfl ?_
  refine wp_get G 2 cOk4 fX4_18 dX4_weightAt_58 h36 rfl ?_
  refine wp_iload G 0 dX4_weightAt_61 rfl ?_
  refine wp_iald (j := ((min 7 (farZ x y ((q 2) i) ((q 3) i)))).toNat) G dX4_weightAt_63 h39 (by omega) (by omega) (by decide) ?_
  have rrq7 := hS.2.2 (((min 7 (farZ x y ((q 2) i) ((q 3) i)))).toNat) (by omega)
  refine wp_imul G dX4_weightAt_64 ?_
  exact wp_ireturn G hr dX4_weightAt_65 ⟨by rfl, rfl, by rfl⟩

set_option maxRecDepth 100000 in
set_option maxHeartbeats 4000000 in
theorem t_X4_weight {nx : Nat} {h : Nat → Option PC} {n : Nat} {q : Nat → Nat → Int} {o : Nat → Nat} {pr : Nat → Int} {fa : Nat → Int} {sp : Nat → Int} {fo : Nat → Int} {de : Nat → Int} {p : Nat} {r : Nat} (hQ : isQ h n q o) (hO : okQ n q o) (hM : isMo h pr fa sp fo de) (hS : okS pr fa sp) (hp : p < n) (hr0 : r < n) : Cx 3 (0, 0) yX4_weight cX4_weight 4 (some .int) [zR 36, zR 2, zI ((o p : Nat) : Int), zI ((o r : Nat) : Int)] nx h (Rt (zI (wpl pr fa sp q o p r)) nx []) := by
  refine cx_of pnX4_weight (Nat.le_of_ble_eq_true rfl) ?_
  intro K G hr hnm hR
  obtain ⟨h2, h3, h4, h5, h6, h7, h8, h9, h10⟩ := id hQ
  have hn40 := hO.1
  obtain ⟨h36, h37, h38, h39, h40, h41⟩ := id hM
  have hop := hO.o p hp
  have hor := hO.o r hr0
  have hxi := hO.x (o p) hop
  have hyi := hO.y (o p) hop
  have hdi := hO.d (o p) hop
  show Wp K 4 (Mx K h (Rt (zI (wpl pr fa sp q o p r)) nx []) (0, 0)) (0, 0) 0 [(0, zR 36), (1, zR 2), (2, zI ((o p : Nat) : Int)), (3, zI ((o r : Nat) : Int))] [] (nx, h, [])
  refine wp_aload_n G 0 dX4_weight_0 rfl ?_
  refine wp_aload_n G 1 dX4_weight_1 rfl ?_
  refine wp_iload_n G 3 dX4_weight_2 rfl ?_
  refine wp_aload_n G 1 dX4_weight_3 rfl ?_
  refine wp_get G 3 cOk5 fX4_29 dX4_weight_4 h2 rfl ?_
  refine wp_iload_n G 2 dX4_weight_7 rfl ?_
  refine wp_iald (j := o p) G dX4_weight_8 h5 rfl (by omega) (by decide) ?_
  have rrq1 := hO.x (o p) (by omega)
  refine wp_aload_n G 1 dX4_weight_9 rfl ?_
  refine wp_get G 4 cOk5 fX4_32 dX4_weight_10 h2 rfl ?_
  refine wp_iload_n G 2 dX4_weight_13 rfl ?_
  refine wp_iald (j := o p) G dX4_weight_14 h6 rfl (by omega) (by decide) ?_
  have rrq2 := hO.y (o p) (by omega)
  refine wp_aload_n G 1 dX4_weight_15 rfl ?_
  refine wp_get G 2 cOk5 fX4_48 dX4_weight_16 h2 rfl ?_
  refine wp_iload_n G 2 dX4_weight_19 rfl ?_
  refine wp_iald (j := o p) G dX4_weight_20 h4 rfl (by omega) (by decide) ?_
  have rrq3 := hO.d (o p) (by omega)
  refine wp_cVE (b := 36) (ci := 4) (as := [zR 2, zI ((o r : Nat) : Int), zI ((q 2) (o p)), zI ((q 3) (o p)), zI ((q 1) (o p))]) (rest := []) (hp2 := (nx, h, [])) G mX4_weightAt lX4_55 iX4_weightAt eX4_weightAt ⟨_, rfl, rfl⟩ dX4_weight_21 h36 rfl rfl (Nat.le_of_ble_eq_true rfl) (rmx_ok hR (by decide) (by decide) (by decide) (by decide)) (t_X4_weightAt (nx := nx) (i := (o r)) (x := ((q 2) (o p))) (y := ((q 3) (o p))) (d := ((q 1) (o p))) hQ hO hM hS hor hxi hyi hdi) rfl ?_
  exact wp_ireturn G hr dX4_weight_24 ⟨by rfl, rfl, by rfl⟩

set_option maxRecDepth 100000 in
set_option maxHeartbeats 4000000 in
theorem t_X4_weightIfAhead {nx : Nat} {h : Nat → Option PC} {n : Nat} {q : Nat → Nat → Int} {o : Nat → Nat} {pr : Nat → Int} {fa : Nat → Int} {sp : Nat → Int} {fo : Nat → Int} {de : Nat → Int} {p : Nat} {r : Nat} {b : Int} (hQ : isQ h n q o) (hO : okQ n q o) (hM : isMo h pr fa sp fo de) (hS : okS pr fa sp) (hp : p < n) (hr0 : r < n) (ri_b : r32 b) : Cx 4 (0, 0) yX4_weightIfAhead cX4_weightIfAhead 6 (some .int) [zR 36, zR 2, zI ((o p : Nat) : Int), zI ((o r : Nat) : Int), zI b] nx h (Rt (zI (ifZ (cnd q (-1) b (o r) ∧ r < p) (wpl pr fa sp q o p r) 0)) nx []) := by
  refine cx_of pnX4_weightIfAhead (Nat.le_of_ble_eq_true rfl) ?_
  intro K G hr hnm hR
  obtain ⟨h2, h3, h4, h5, h6, h7, h8, h9, h10⟩ := id hQ
  have hn40 := hO.1
  obtain ⟨h36, h37, h38, h39, h40, h41⟩ := id hM
  have hop := hO.o p hp
  have hor := hO.o r hr0
  show Wp K 6 (Mx K h (Rt (zI (ifZ (cnd q (-1) b (o r) ∧ r < p) (wpl pr fa sp q o p r) 0)) nx []) (0, 0)) (0, 0) 0 [(0, zR 36), (1, zR 2), (2, zI ((o p : Nat) : Int)), (3, zI ((o r : Nat) : Int)), (4, zI b)] [] (nx, h, [])
  refine wp_aload_n G 1 dX4_weightIfAhead_0 rfl ?_
  refine wp_iload_n G 3 dX4_weightIfAhead_1 rfl ?_
  refine wp_iconst G dX4_weightIfAhead_2 ?_
  refine wp_iload G 4 dX4_weightIfAhead_3 rfl ?_
  refine wp_cVE (b := 2) (ci := 5) (as := [zI ((o r : Nat) : Int), zI (-1), zI b]) (rest := []) (hp2 := (nx, h, [])) G mX6_isCounted lX4_59 iX6_isCounted eX6_isCounted ⟨_, rfl, rfl⟩ dX4_weightIfAhead_5 h2 rfl rfl (Nat.le_of_ble_eq_true rfl) (rmx_ok hR (by decide) (by decide) (by decide) (by decide)) (t_X6_isCounted (nx := nx) (j := (o r)) (a := (-1)) (b := b) hQ hO hor (by omega) ri_b) rfl ?_
  refine wp_ifeq_bt G dX4_weightIfAhead_8 (fun kq1 => ?_) (fun kq1 => ?_)
  · skip
    refine wp_iconst G dX4_weightIfAhead_28 ?_
    refine wp_istore (lv' := [(5, zI 0), (0, zR 36), (1, zR 2), (2, zI ((o p : Nat) : Int)), (3, zI ((o r : Nat) : Int)), (4, zI b)]) G dX4_weightIfAhead_29 (by decide) rfl ?_
    refine wp_iload G 0 dX4_weightIfAhead_31 rfl ?_
    refine wp_if_eq G dX4_weightIfAhead_33 (by omega) (fun _ => ?_) (fun z => by exfalso; omega)
    refine wp_iconst G dX4_weightIfAhead_46 ?_
    exact wp_ireturn G hr dX4_weightIfAhead_47 ⟨by first | rw [ifZ_y ⟨by assumption, by omega⟩] | rw [ifZ_n (by intro z; first | exact absurd z.1 (by assumption) | (have := z.2; omega))], rfl, by rfl⟩
  · skip
    refine wp_aload_n G 1 dX4_weightIfAhead_11 rfl ?_
    refine wp_iload_n G 3 dX4_weightIfAhead_12 rfl ?_
    refine wp_cVE (b := 2) (ci := 5) (as := [zI ((o r : Nat) : Int)]) (rest := []) (hp2 := (nx, h, [])) G mX6_placeOf lX4_63 iX6_placeOf eX6_placeOf ⟨_, rfl, rfl⟩ dX4_weightIfAhead_13 h2 rfl rfl (Nat.le_of_ble_eq_true rfl) (rmx_ok hR (by decide) (by decide) (by decide) (by decide)) (t_X6_placeOf (nx := nx) (p := r) hQ hO hr0) rfl ?_
    refine wp_aload_n G 1 dX4_weightIfAhead_16 rfl ?_
    refine wp_iload_n G 2 dX4_weightIfAhead_17 rfl ?_
    refine wp_cVE (b := 2) (ci := 5) (as := [zI ((o p : Nat) : Int)]) (rest := [zI ((r : Nat) : Int)]) (hp2 := (nx, h, [])) G mX6_placeOf lX4_63 iX6_placeOf eX6_placeOf ⟨_, rfl, rfl⟩ dX4_weightIfAhead_18 h2 rfl rfl (Nat.le_of_ble_eq_true rfl) (rmx_ok hR (by decide) (by decide) (by decide) (by decide)) (t_X6_placeOf (nx := nx) (p := p) hQ hO hp) rfl ?_
    refine wp_icmp_ge G dX4_weightIfAhead_21 (by omega) (by omega) (fun kq3 => ?_) (fun kq3 => ?_)
    · skip
      refine wp_iconst G dX4_weightIfAhead_28 ?_
      refine wp_istore (lv' := [(5, zI 0), (0, zR 36), (1, zR 2), (2, zI ((o p : Nat) : Int)), (3, zI ((o r : Nat) : Int)), (4, zI b)]) G dX4_weightIfAhead_29 (by decide) rfl ?_
      refine wp_iload G 0 dX4_weightIfAhead_31 rfl ?_
      refine wp_if_eq G dX4_weightIfAhead_33 (by omega) (fun _ => ?_) (fun z => by exfalso; omega)
      refine wp_iconst G dX4_weightIfAhead_46 ?_
      exact wp_ireturn G hr dX4_weightIfAhead_47 ⟨by first | rw [ifZ_y ⟨by assumption, by omega⟩] | rw [ifZ_n (by intro z; first | exact absurd z.1 (by assumption) | (have := z.2; omega))], rfl, by rfl⟩
    · skip
      refine wp_iconst G dX4_weightIfAhead_24 ?_
      refine wp_goto G dX4_weightIfAhead_25 ?_
      refine wp_istore (lv' := [(5, zI 1), (0, zR 36), (1, zR 2), (2, zI ((o p : Nat) : Int)), (3, zI ((o r : Nat) : Int)), (4, zI b)]) G dX4_weightIfAhead_29 (by decide) rfl ?_
      refine wp_iload G 0 dX4_weightIfAhead_31 rfl ?_
      refine wp_if_eq G dX4_weightIfAhead_33 (by omega) (fun z => by exfalso; omega) (fun _ => ?_)
      refine wp_aload_n G 1 dX4_weightIfAhead_36 rfl ?_
      refine wp_aload_n G 2 dX4_weightIfAhead_37 rfl ?_
      refine wp_iload_n G 3 dX4_weightIfAhead_38 rfl ?_
      refine wp_iload_n G 4 dX4_weightIfAhead_39 rfl ?_
      refine wp_cVE (b := 36) (ci := 4) (as := [zR 2, zI ((o p : Nat) : Int), zI ((o r : Nat) : Int)]) (rest := []) (hp2 := (nx, h, [])) G mX4_weight lX4_66 iX4_weight eX4_weight ⟨_, rfl, rfl⟩ dX4_weightIfAhead_40 h36 rfl rfl (Nat.le_of_ble_eq_true rfl) (rmx_ok hR (by decide) (by decide) (by decide) (by decide)) (t_X4_weight (nx := nx) (p := p) (r := r) hQ hO hM hS hp hr0) rfl ?_
      refine wp_goto G dX4_weightIfAhead_43 ?_
      exact wp_ireturn G hr dX4_weightIfAhead_47 ⟨by first | rw [ifZ_y ⟨by assumption, by omega⟩] | rw [ifZ_n (by intro z; first | exact absurd z.1 (by assumption) | (have := z.2; omega))], rfl, by rfl⟩

set_option maxRecDepth 100000 in
set_option maxHeartbeats 4000000 in
theorem t_X4_allWeights {nx : Nat} {h : Nat → Option PC} {n : Nat} {q : Nat → Nat → Int} {o : Nat → Nat} {pr : Nat → Int} {fa : Nat → Int} {sp : Nat → Int} {fo : Nat → Int} {de : Nat → Int} {p : Nat} {calm : Int} {b : Int} (hQ : isQ h n q o) (hO : okQ n q o) (hM : isMo h pr fa sp fo de) (hS : okS pr fa sp) (hp : p < n) (hc : 1 ≤ calm ∧ calm ≤ 100000) (ri_b : r32 b) : Cx 4 (0, 0) yX4_allWeights cX4_allWeights 9 (some .int) [zR 36, zR 2, zI ((o p : Nat) : Int), zI b, zI calm] nx h (Rt (zI (calm + sumZ (fun r => ifZ (cnd q (-1) b (o r)) (wpl pr fa sp q o p r) 0) p)) nx []) := by
  refine cx_of pnX4_allWeights (Nat.le_of_ble_eq_true rfl) ?_
  intro K G hr hnm hR
  obtain ⟨h2, h3, h4, h5, h6, h7, h8, h9, h10⟩ := id hQ
  have hn40 := hO.1
  obtain ⟨h36, h37, h38, h39, h40, h41⟩ := id hM
  have hop := hO.o p hp
  show Wp K 9 (Mx K h (Rt (zI (calm + sumZ (fun r => ifZ (cnd q (-1) b (o r)) (wpl pr fa sp q o p r) 0) p)) nx []) (0, 0)) (0, 0) 0 [(0, zR 36), (1, zR 2), (2, zI ((o p : Nat) : Int)), (3, zI b), (4, zI calm)] [] (nx, h, [])
  refine wp_iload G 4 dX4_allWeights_0 rfl ?_
  refine wp_istore (lv' := [(5, zI calm), (0, zR 36), (1, zR 2), (2, zI ((o p : Nat) : Int)), (3, zI b), (4, zI calm)]) G dX4_allWeights_2 (by decide) rfl ?_
  refine wp_aload_n G 2 dX4_allWeights_4 rfl ?_
  refine wp_iload_n G 3 dX4_allWeights_5 rfl ?_
  refine wp_cVE (b := 2) (ci := 5) (as := [zI ((o p : Nat) : Int)]) (rest := []) (hp2 := (nx, h, [])) G mX6_placeOf lX4_63 iX6_placeOf eX6_placeOf ⟨_, rfl, rfl⟩ dX4_allWeights_6 h2 rfl rfl (Nat.le_of_ble_eq_true rfl) (rmx_ok hR (by decide) (by decide) (by decide) (by decide)) (t_X6_placeOf (nx := nx) (p := p) hQ hO hp) rfl ?_
  refine wp_istore (lv' := [(6, zI ((p : Nat) : Int)), (5, zI calm), (0, zR 36), (1, zR 2), (2, zI ((o p : Nat) : Int)), (3, zI b), (4, zI calm)]) G dX4_allWeights_9 (by decide) rfl ?_
  refine wp_iconst G dX4_allWeights_11 ?_
  refine wp_istore (lv' := [(7, zI 0), (6, zI ((p : Nat) : Int)), (5, zI calm), (0, zR 36), (1, zR 2), (2, zI ((o p : Nat) : Int)), (3, zI b), (4, zI calm)]) G dX4_allWeights_12 (by decide) rfl ?_
  refine wp_lv [3, 4, 5, 6, 7, 2, 1, 0] rfl ?_
  suffices lp14 : ∀ (fu : Nat) (k : Nat) (v5 : Int) (v7 : Int), p - k < fu → (v5 = (calm + sumZ (fun r => ifZ (cnd q (-1) b (o r)) (wpl pr fa sp q o p r) 0) k)) → (v7 = ((k : Nat) : Int)) → (k ≤ p) → Wp K 9 (Mx K h (Rt (zI (calm + sumZ (fun r => ifZ (cnd q (-1) b (o r)) (wpl pr fa sp q o p r) 0) p)) nx []) (0, 0)) (0, 0) 14 [(0, zR 36), (1, zR 2), (2, zI ((o p : Nat) : Int)), (3, zI b), (4, zI calm), (5, zI v5), (6, zI ((p : Nat) : Int)), (7, zI v7)] [] (nx, h, []) from lp14 _ 0 calm 0 (Nat.lt_succ_self _) (by simp [sumZ]) (by omega) (by omega)
  intro fu
  induction fu with
  | zero => intro k v5 v7 hm; exact absurd hm (Nat.not_lt_zero _)
  | succ fu ih14 =>
    intro k v5 v7 hm14 e5 e7 hi0
    subst e5
    subst e7
    refine wp_iload G 7 dX4_allWeights_14 rfl ?_
    refine wp_iload G 6 dX4_allWeights_16 rfl ?_
    refine wp_icmp_ge G dX4_allWeights_18 (by omega) (by omega) (fun kq1 => ?_) (fun kq1 => ?_)
    · skip
      refine wp_iload G 5 dX4_allWeights_60 rfl ?_
      exact wp_ireturn G hr dX4_allWeights_62 ⟨by rw [show k = p by omega], rfl, by rfl⟩
    · skip
      refine wp_aload_n G 1 dX4_allWeights_21 rfl ?_
      refine wp_get G 8 cOk5 fX4_70 dX4_allWeights_22 h2 rfl ?_
      refine wp_iload G 7 dX4_allWeights_25 rfl ?_
      refine wp_iald (j := k) G dX4_allWeights_27 h10 rfl (by omega) (by decide) ?_
      have rrq1 := hO.o k (by omega)
      refine wp_istore (lv' := [(8, zI ((o k : Nat) : Int)), (0, zR 36), (1, zR 2), (2, zI ((o p : Nat) : Int)), (3, zI b), (4, zI calm), (5, zI (calm + sumZ (fun r => ifZ (cnd q (-1) b (o r)) (wpl pr fa sp q o p r) 0) k)), (6, zI ((p : Nat) : Int)), (7, zI ((k : Nat) : Int))]) G dX4_allWeights_28 (by decide) rfl ?_
      refine wp_aload_n G 2 dX4_allWeights_30 rfl ?_
      refine wp_iload G 0 dX4_allWeights_31 rfl ?_
      refine wp_iconst G dX4_allWeights_33 ?_
      refine wp_iload_n G 4 dX4_allWeights_34 rfl ?_
      refine wp_cVE (b := 2) (ci := 5) (as := [zI ((o k : Nat) : Int), zI (-1), zI b]) (rest := []) (hp2 := (nx, h, [])) G mX6_isCounted lX4_59 iX6_isCounted eX6_isCounted ⟨_, rfl, rfl⟩ dX4_allWeights_35 h2 rfl rfl (Nat.le_of_ble_eq_true rfl) (rmx_ok hR (by decide) (by decide) (by decide) (by decide)) (t_X6_isCounted (nx := nx) (j := (o k)) (a := (-1)) (b := b) hQ hO (hO.o k (by omega)) (by omega) ri_b) rfl ?_
      refine wp_ifeq_bt G dX4_allWeights_38 (fun kq2 => ?_) (fun kq2 => ?_)
      · skip
        refine wp_iinc (lv' := [(7, zI (((k : Nat) : Int) + 1)), (8, zI ((o k : Nat) : Int)), (0, zR 36), (1, zR 2), (2, zI ((o p : Nat) : Int)), (3, zI b), (4, zI calm), (5, zI (calm + sumZ (fun r => ifZ (cnd q (-1) b (o r)) (wpl pr fa sp q o p r) 0) k)), (6, zI ((p : Nat) : Int))]) G 8 dX4_allWeights_54 rfl (by decide) rfl ?_
        refine wp_goto G dX4_allWeights_57 ?_
        refine wp_lv [2, 3, 4, 5, 6, 7, 8, 0] rfl ?_
        exact ih14 (k + 1) (calm + sumZ (fun r => ifZ (cnd q (-1) b (o r)) (wpl pr fa sp q o p r) 0) k) (((k : Nat) : Int) + 1) (by omega) (by rw [sumZ]; first | (rw [ifZ_y (by assumption)]; omega) | (rw [ifZ_n (by assumption)]; omega)) (by omega) (by omega)
      · skip
        refine wp_iload G 6 dX4_allWeights_41 rfl ?_
        refine wp_aload_n G 1 dX4_allWeights_43 rfl ?_
        refine wp_aload_n G 2 dX4_allWeights_44 rfl ?_
        refine wp_iload_n G 3 dX4_allWeights_45 rfl ?_
        refine wp_iload G 0 dX4_allWeights_46 rfl ?_
        refine wp_cVE (b := 36) (ci := 4) (as := [zR 2, zI ((o p : Nat) : Int), zI ((o k : Nat) : Int)]) (rest := [zI (calm + sumZ (fun r => ifZ (cnd q (-1) b (o r)) (wpl pr fa sp q o p r) 0) k)]) (hp2 := (nx, h, [])) G mX4_weight lX4_66 iX4_weight eX4_weight ⟨_, rfl, rfl⟩ dX4_allWeights_48 h36 rfl rfl (Nat.le_of_ble_eq_true rfl) (rmx_ok hR (by decide) (by decide) (by decide) (by decide)) (t_X4_weight (nx := nx) (p := p) (r := k) hQ hO hM hS hp (by omega)) rfl ?_
        refine wp_iadd G dX4_allWeights_51 ?_
        refine wp_istore (lv' := [(5, zI ((calm + sumZ (fun r => ifZ (cnd q (-1) b (o r)) (wpl pr fa sp q o p r) 0) k) + wpl pr fa sp q o p k)), (8, zI ((o k : Nat) : Int)), (0, zR 36), (1, zR 2), (2, zI ((o p : Nat) : Int)), (3, zI b), (4, zI calm), (6, zI ((p : Nat) : Int)), (7, zI ((k : Nat) : Int))]) G dX4_allWeights_52 (by decide) rfl ?_
        refine wp_iinc (lv' := [(7, zI (((k : Nat) : Int) + 1)), (5, zI ((calm + sumZ (fun r => ifZ (cnd q (-1) b (o r)) (wpl pr fa sp q o p r) 0) k) + wpl pr fa sp q o p k)), (8, zI ((o k : Nat) : Int)), (0, zR 36), (1, zR 2), (2, zI ((o p : Nat) : Int)), (3, zI b), (4, zI calm), (6, zI ((p : Nat) : Int))]) G 8 dX4_allWeights_54 rfl (by decide) rfl ?_
        refine wp_goto G dX4_allWeights_57 ?_
        refine wp_lv [3, 4, 5, 6, 7, 1, 8, 0] rfl ?_
        exact ih14 (k + 1) ((calm + sumZ (fun r => ifZ (cnd q (-1) b (o r)) (wpl pr fa sp q o p r) 0) k) + wpl pr fa sp q o p k) (((k : Nat) : Int) + 1) (by omega) (by rw [sumZ]; first | (rw [ifZ_y (by assumption)]; omega) | (rw [ifZ_n (by assumption)]; omega)) (by omega) (by omega)

set_option maxRecDepth 100000 in
set_option maxHeartbeats 4000000 in
theorem t_X4_weightOn {nx : Nat} {h : Nat → Option PC} {n : Nat} {q : Nat → Nat → Int} {o : Nat → Nat} {pr : Nat → Int} {fa : Nat → Int} {sp : Nat → Int} {fo : Nat → Int} {de : Nat → Int} {x : Int} {y : Int} {d : Int} {b : Int} (hQ : isQ h n q o) (hO : okQ n q o) (hM : isMo h pr fa sp fo de) (hS : okS pr fa sp) (hx : 0 ≤ x ∧ x ≤ 15) (hy : 0 ≤ y ∧ y ≤ 15) (hd : 0 ≤ d ∧ d ≤ 3999) (ri_b : r32 b) : Cx 3 (0, 0) yX4_weightOn cX4_weightOn 8 (some .int) [zR 36, zR 2, zI x, zI y, zI d, zI b] nx h (Rt (zI (sumZ (fun i => ifZ (q 1 i < d ∧ cnd q (-1) b i) (wgt pr fa sp q i x y d) 0) n)) nx []) := by
  refine cx_of pnX4_weightOn (Nat.le_of_ble_eq_true rfl) ?_
  intro K G hr hnm hR
  obtain ⟨h2, h3, h4, h5, h6, h7, h8, h9, h10⟩ := id hQ
  have hn40 := hO.1
  obtain ⟨h36, h37, h38, h39, h40, h41⟩ := id hM
  show Wp K 8 (Mx K h (Rt (zI (sumZ (fun i => ifZ (q 1 i < d ∧ cnd q (-1) b i) (wgt pr fa sp q i x y d) 0) n)) nx []) (0, 0)) (0, 0) 0 [(0, zR 36), (1, zR 2), (2, zI x), (3, zI y), (4, zI d), (5, zI b)] [] (nx, h, [])
  refine wp_iconst G dX4_weightOn_0 ?_
  refine wp_istore (lv' := [(6, zI 0), (0, zR 36), (1, zR 2), (2, zI x), (3, zI y), (4, zI d), (5, zI b)]) G dX4_weightOn_1 (by decide) rfl ?_
  refine wp_iconst G dX4_weightOn_3 ?_
  refine wp_istore (lv' := [(7, zI 0), (6, zI 0), (0, zR 36), (1, zR 2), (2, zI x), (3, zI y), (4, zI d), (5, zI b)]) G dX4_weightOn_4 (by decide) rfl ?_
  refine wp_lv [2, 3, 4, 5, 6, 7, 1, 0] rfl ?_
  suffices lp6 : ∀ (fu : Nat) (k : Nat) (v6 : Int) (v7 : Int), n - k < fu → (v6 = sumZ (fun i => ifZ (q 1 i < d ∧ cnd q (-1) b i) (wgt pr fa sp q i x y d) 0) k) → (v7 = ((k : Nat) : Int)) → (k ≤ n) → Wp K 8 (Mx K h (Rt (zI (sumZ (fun i => ifZ (q 1 i < d ∧ cnd q (-1) b i) (wgt pr fa sp q i x y d) 0) n)) nx []) (0, 0)) (0, 0) 6 [(0, zR 36), (1, zR 2), (2, zI x), (3, zI y), (4, zI d), (5, zI b), (6, zI v6), (7, zI v7)] [] (nx, h, []) from lp6 _ 0 0 0 (Nat.lt_succ_self _) (by rfl) (by omega) (by omega)
  intro fu
  induction fu with
  | zero => intro k v6 v7 hm; exact absurd hm (Nat.not_lt_zero _)
  | succ fu ih6 =>
    intro k v6 v7 hm6 e6 e7 hi0
    subst e6
    subst e7
    refine wp_iload G 7 dX4_weightOn_6 rfl ?_
    refine wp_aload_n G 1 dX4_weightOn_8 rfl ?_
    refine wp_get G 0 cOk5 fX4_73 dX4_weightOn_9 h2 rfl ?_
    refine wp_icmp_ge G dX4_weightOn_12 (by omega) (by omega) (fun kq1 => ?_) (fun kq1 => ?_)
    · skip
      refine wp_iload G 6 dX4_weightOn_61 rfl ?_
      exact wp_ireturn G hr dX4_weightOn_63 ⟨by rw [show k = n by omega], rfl, by rfl⟩
    · skip
      refine wp_aload_n G 1 dX4_weightOn_15 rfl ?_
      refine wp_get G 2 cOk5 fX4_48 dX4_weightOn_16 h2 rfl ?_
      refine wp_iload G 7 dX4_weightOn_19 rfl ?_
      refine wp_iald (j := k) G dX4_weightOn_21 h4 rfl (by omega) (by decide) ?_
      have rrq1 := hO.d k (by omega)
      refine wp_iload G 4 dX4_weightOn_22 rfl ?_
      refine wp_icmp_ge G dX4_weightOn_24 (by omega) (by omega) (fun kq2 => ?_) (fun kq2 => ?_)
      · skip
        refine wp_iinc (lv' := [(7, zI (((k : Nat) : Int) + 1)), (0, zR 36), (1, zR 2), (2, zI x), (3, zI y), (4, zI d), (5, zI b), (6, zI (sumZ (fun i => ifZ (q 1 i < d ∧ cnd q (-1) b i) (wgt pr fa sp q i x y d) 0) k))]) G 7 dX4_weightOn_55 rfl (by decide) rfl ?_
        refine wp_goto G dX4_weightOn_58 ?_
        refine wp_lv [1, 2, 3, 4, 5, 6, 7, 0] rfl ?_
        exact ih6 (k + 1) (sumZ (fun i => ifZ (q 1 i < d ∧ cnd q (-1) b i) (wgt pr fa sp q i x y d) 0) k) (((k : Nat) : Int) + 1) (by omega) (by rw [sumZ]; first | (rw [ifZ_y ⟨by omega, by assumption⟩]; done) | (rw [ifZ_n (by intro z; first | exact absurd z.2 (by assumption) | (have := z.1; omega))]; omega)) (by omega) (by omega)
      · skip
        refine wp_aload_n G 1 dX4_weightOn_27 rfl ?_
        refine wp_iload G 7 dX4_weightOn_28 rfl ?_
        refine wp_iconst G dX4_weightOn_30 ?_
        refine wp_iload G 5 dX4_weightOn_31 rfl ?_
        refine wp_cVE (b := 2) (ci := 5) (as := [zI ((k : Nat) : Int), zI (-1), zI b]) (rest := []) (hp2 := (nx, h, [])) G mX6_isCounted lX4_59 iX6_isCounted eX6_isCounted ⟨_, rfl, rfl⟩ dX4_weightOn_33 h2 rfl rfl (Nat.le_of_ble_eq_true rfl) (rmx_ok hR (by decide) (by decide) (by decide) (by decide)) (t_X6_isCounted (nx := nx) (j := k) (a := (-1)) (b := b) hQ hO (by omega) (by omega) ri_b) rfl ?_
        refine wp_ifeq_bt G dX4_weightOn_36 (fun kq3 => ?_) (fun kq3 => ?_)
        · skip
          refine wp_iinc (lv' := [(7, zI (((k : Nat) : Int) + 1)), (0, zR 36), (1, zR 2), (2, zI x), (3, zI y), (4, zI d), (5, zI b), (6, zI (sumZ (fun i => ifZ (q 1 i < d ∧ cnd q (-1) b i) (wgt pr fa sp q i x y d) 0) k))]) G 7 dX4_weightOn_55 rfl (by decide) rfl ?_
          refine wp_goto G dX4_weightOn_58 ?_
          refine wp_lv [1, 2, 3, 4, 5, 6, 7, 0] rfl ?_
          exact ih6 (k + 1) (sumZ (fun i => ifZ (q 1 i < d ∧ cnd q (-1) b i) (wgt pr fa sp q i x y d) 0) k) (((k : Nat) : Int) + 1) (by omega) (by rw [sumZ]; first | (rw [ifZ_y ⟨by omega, by assumption⟩]; done) | (rw [ifZ_n (by intro z; first | exact absurd z.2 (by assumption) | (have := z.1; omega))]; omega)) (by omega) (by omega)
        · skip
          refine wp_iload G 6 dX4_weightOn_39 rfl ?_
          refine wp_aload_n G 0 dX4_weightOn_41 rfl ?_
          refine wp_aload_n G 1 dX4_weightOn_42 rfl ?_
          refine wp_iload G 7 dX4_weightOn_43 rfl ?_
          refine wp_iload_n G 2 dX4_weightOn_45 rfl ?_
          refine wp_iload_n G 3 dX4_weightOn_46 rfl ?_
          refine wp_iload G 4 dX4_weightOn_47 rfl ?_
          refine wp_cVE (b := 36) (ci := 4) (as := [zR 2, zI ((k : Nat) : Int), zI x, zI y, zI d]) (rest := [zI (sumZ (fun i => ifZ (q 1 i < d ∧ cnd q (-1) b i) (wgt pr fa sp q i x y d) 0) k)]) (hp2 := (nx, h, [])) G mX4_weightAt lX4_55 iX4_weightAt eX4_weightAt ⟨_, rfl, rfl⟩ dX4_weightOn_49 h36 rfl rfl (Nat.le_of_ble_eq_true rfl) (rmx_ok hR (by decide) (by decide) (by decide) (by decide)) (t_X4_weightAt (nx := nx) (i := k) (x := x) (y := y) (d := d) hQ hO hM hS (by omega) hx hy hd) rfl ?_
          refine wp_iadd G dX4_weightOn_52 ?_
          refine wp_istore (lv' := [(6, zI (sumZ (fun i => ifZ (q 1 i < d ∧ cnd q (-1) b i) (wgt pr fa sp q i x y d) 0) k + wgt pr fa sp q k x y d)), (0, zR 36), (1, zR 2), (2, zI x), (3, zI y), (4, zI d), (5, zI b), (7, zI ((k : Nat) : Int))]) G dX4_weightOn_53 (by decide) rfl ?_
          refine wp_iinc (lv' := [(7, zI (((k : Nat) : Int) + 1)), (6, zI (sumZ (fun i => ifZ (q 1 i < d ∧ cnd q (-1) b i) (wgt pr fa sp q i x y d) 0) k + wgt pr fa sp q k x y d)), (0, zR 36), (1, zR 2), (2, zI x), (3, zI y), (4, zI d), (5, zI b)]) G 7 dX4_weightOn_55 rfl (by decide) rfl ?_
          refine wp_goto G dX4_weightOn_58 ?_
          refine wp_lv [2, 3, 4, 5, 6, 7, 1, 0] rfl ?_
          exact ih6 (k + 1) (sumZ (fun i => ifZ (q 1 i < d ∧ cnd q (-1) b i) (wgt pr fa sp q i x y d) 0) k + wgt pr fa sp q k x y d) (((k : Nat) : Int) + 1) (by omega) (by rw [sumZ]; first | (rw [ifZ_y ⟨by omega, by assumption⟩]; done) | (rw [ifZ_n (by intro z; first | exact absurd z.2 (by assumption) | (have := z.1; omega))]; omega)) (by omega) (by omega)

set_option maxRecDepth 100000 in
set_option maxHeartbeats 4000000 in
theorem t_X4_likeliest {nx : Nat} {h : Nat → Option PC} {n : Nat} {q : Nat → Nat → Int} {o : Nat → Nat} {pr : Nat → Int} {fa : Nat → Int} {sp : Nat → Int} {fo : Nat → Int} {de : Nat → Int} {p : Nat} {calm : Int} {b : Int} (hQ : isQ h n q o) (hO : okQ n q o) (hM : isMo h pr fa sp fo de) (hS : okS pr fa sp) (hp : p < n) (hc : 1 ≤ calm ∧ calm ≤ 100000) (ri_b : r32 b) : Cx 4 (0, 0) yX4_likeliest cX4_likeliest 11 (some .int) [zR 36, zR 2, zI ((o p : Nat) : Int), zI b, zI calm] nx h (Rt (zI ((lik pr fa sp q o b calm p p).1)) nx []) := by
  refine cx_of pnX4_likeliest (Nat.le_of_ble_eq_true rfl) ?_
  intro K G hr hnm hR
  obtain ⟨h2, h3, h4, h5, h6, h7, h8, h9, h10⟩ := id hQ
  have hn40 := hO.1
  obtain ⟨h36, h37, h38, h39, h40, h41⟩ := id hM
  have hop := hO.o p hp
  show Wp K 11 (Mx K h (Rt (zI ((lik pr fa sp q o b calm p p).1)) nx []) (0, 0)) (0, 0) 0 [(0, zR 36), (1, zR 2), (2, zI ((o p : Nat) : Int)), (3, zI b), (4, zI calm)] [] (nx, h, [])
  refine wp_bipush G dX4_likeliest_0 (by decide) ?_
  refine wp_istore (lv' := [(5, zI (-6)), (0, zR 36), (1, zR 2), (2, zI ((o p : Nat) : Int)), (3, zI b), (4, zI calm)]) G dX4_likeliest_2 (by decide) rfl ?_
  refine wp_iload G 5 dX4_likeliest_4 rfl ?_
  refine wp_istore (lv' := [(6, zI calm), (5, zI (-6)), (0, zR 36), (1, zR 2), (2, zI ((o p : Nat) : Int)), (3, zI b), (4, zI calm)]) G dX4_likeliest_6 (by decide) rfl ?_
  refine wp_aload_n G 3 dX4_likeliest_8 rfl ?_
  refine wp_iload_n G 4 dX4_likeliest_9 rfl ?_
  refine wp_cVE (b := 2) (ci := 5) (as := [zI ((o p : Nat) : Int)]) (rest := []) (hp2 := (nx, h, [])) G mX6_placeOf lX4_63 iX6_placeOf eX6_placeOf ⟨_, rfl, rfl⟩ dX4_likeliest_10 h2 rfl rfl (Nat.le_of_ble_eq_true rfl) (rmx_ok hR (by decide) (by decide) (by decide) (by decide)) (t_X6_placeOf (nx := nx) (p := p) hQ hO hp) rfl ?_
  refine wp_istore (lv' := [(7, zI ((p : Nat) : Int)), (6, zI calm), (5, zI (-6)), (0, zR 36), (1, zR 2), (2, zI ((o p : Nat) : Int)), (3, zI b), (4, zI calm)]) G dX4_likeliest_13 (by decide) rfl ?_
  refine wp_iconst G dX4_likeliest_15 ?_
  refine wp_istore (lv' := [(8, zI 0), (7, zI ((p : Nat) : Int)), (6, zI calm), (5, zI (-6)), (0, zR 36), (1, zR 2), (2, zI ((o p : Nat) : Int)), (3, zI b), (4, zI calm)]) G dX4_likeliest_16 (by decide) rfl ?_
  refine wp_lv [4, 5, 6, 7, 8, 3, 2, 1, 0] rfl ?_
  suffices lp18 : ∀ (fu : Nat) (k : Nat) (v5 : Int) (v6 : Int) (v8 : Int), p - k < fu → (v5 = (lik pr fa sp q o b calm p k).1) → (v6 = (lik pr fa sp q o b calm p k).2) → (v8 = ((k : Nat) : Int)) → (k ≤ p) → Wp K 11 (Mx K h (Rt (zI ((lik pr fa sp q o b calm p p).1)) nx []) (0, 0)) (0, 0) 18 [(0, zR 36), (1, zR 2), (2, zI ((o p : Nat) : Int)), (3, zI b), (4, zI calm), (5, zI v5), (6, zI v6), (7, zI ((p : Nat) : Int)), (8, zI v8)] [] (nx, h, []) from lp18 _ 0 (-6) calm 0 (Nat.lt_succ_self _) (by rfl) (by rfl) (by omega) (by omega)
  intro fu
  induction fu with
  | zero => intro k v5 v6 v8 hm; exact absurd hm (Nat.not_lt_zero _)
  | succ fu ih18 =>
    intro k v5 v6 v8 hm18 e5 e6 e8 hi0
    subst e5
    subst e6
    subst e8
    have hlb := (lik_b (p := p) (b := b) hS hO hc k (by omega)).1
    have hwb := wpl_b (p := p) hS hO (r := k)
    refine wp_iload G 8 dX4_likeliest_18 rfl ?_
    refine wp_iload G 7 dX4_likeliest_20 rfl ?_
    refine wp_icmp_ge G dX4_likeliest_22 (by omega) (by omega) (fun kq1 => ?_) (fun kq1 => ?_)
    · skip
      refine wp_iload G 5 dX4_likeliest_80 rfl ?_
      exact wp_ireturn G hr dX4_likeliest_82 ⟨by rw [show k = p by omega], rfl, by rfl⟩
    · skip
      refine wp_aload_n G 1 dX4_likeliest_25 rfl ?_
      refine wp_get G 8 cOk5 fX4_70 dX4_likeliest_26 h2 rfl ?_
      refine wp_iload G 8 dX4_likeliest_29 rfl ?_
      refine wp_iald (j := k) G dX4_likeliest_31 h10 rfl (by omega) (by decide) ?_
      have rrq1 := hO.o k (by omega)
      refine wp_istore (lv' := [(9, zI ((o k : Nat) : Int)), (0, zR 36), (1, zR 2), (2, zI ((o p : Nat) : Int)), (3, zI b), (4, zI calm), (5, zI ((lik pr fa sp q o b calm p k).1)), (6, zI ((lik pr fa sp q o b calm p k).2)), (7, zI ((p : Nat) : Int)), (8, zI ((k : Nat) : Int))]) G dX4_likeliest_32 (by decide) rfl ?_
      refine wp_aload_n G 2 dX4_likeliest_34 rfl ?_
      refine wp_iload G 0 dX4_likeliest_35 rfl ?_
      refine wp_iconst G dX4_likeliest_37 ?_
      refine wp_iload_n G 4 dX4_likeliest_38 rfl ?_
      refine wp_cVE (b := 2) (ci := 5) (as := [zI ((o k : Nat) : Int), zI (-1), zI b]) (rest := []) (hp2 := (nx, h, [])) G mX6_isCounted lX4_59 iX6_isCounted eX6_isCounted ⟨_, rfl, rfl⟩ dX4_likeliest_39 h2 rfl rfl (Nat.le_of_ble_eq_true rfl) (rmx_ok hR (by decide) (by decide) (by decide) (by decide)) (t_X6_isCounted (nx := nx) (j := (o k)) (a := (-1)) (b := b) hQ hO (hO.o k (by omega)) (by omega) ri_b) rfl ?_
      refine wp_ifeq_bt G dX4_likeliest_42 (fun kq2 => ?_) (fun kq2 => ?_)
      · skip
        refine wp_iconst G dX4_likeliest_56 ?_
        refine wp_istore (lv' := [(10, zI 0), (9, zI ((o k : Nat) : Int)), (0, zR 36), (1, zR 2), (2, zI ((o p : Nat) : Int)), (3, zI b), (4, zI calm), (5, zI ((lik pr fa sp q o b calm p k).1)), (6, zI ((lik pr fa sp q o b calm p k).2)), (7, zI ((p : Nat) : Int)), (8, zI ((k : Nat) : Int))]) G dX4_likeliest_57 (by decide) rfl ?_
        have hwb2 := hwb (by omega)
        refine wp_iload G 0 dX4_likeliest_59 rfl ?_
        refine wp_iload G 8 dX4_likeliest_61 rfl ?_
        refine wp_icmp_le G dX4_likeliest_63 (by omega) (by omega) (fun kq3 => ?_) (fun kq3 => ?_)
        · skip
          refine wp_iinc (lv' := [(8, zI (((k : Nat) : Int) + 1)), (10, zI 0), (9, zI ((o k : Nat) : Int)), (0, zR 36), (1, zR 2), (2, zI ((o p : Nat) : Int)), (3, zI b), (4, zI calm), (5, zI ((lik pr fa sp q o b calm p k).1)), (6, zI ((lik pr fa sp q o b calm p k).2)), (7, zI ((p : Nat) : Int))]) G 10 dX4_likeliest_74 rfl (by decide) rfl ?_
          refine wp_goto G dX4_likeliest_77 ?_
          refine wp_lv [3, 4, 5, 6, 7, 8, 9, 10, 0] rfl ?_
          exact ih18 (k + 1) ((lik pr fa sp q o b calm p k).1) ((lik pr fa sp q o b calm p k).2) (((k : Nat) : Int) + 1) (by omega) (by first | (exfalso; omega) | (rw [lik_y (by assumption) (by omega)]; done) | (rw [lik_n (by intro z; first | exact absurd z.1 (by assumption) | (have := z.2; omega))])) (by first | (exfalso; omega) | (rw [lik_y (by assumption) (by omega)]; done) | (rw [lik_n (by intro z; first | exact absurd z.1 (by assumption) | (have := z.2; omega))])) (by omega) (by omega)
        · skip
          refine wp_iload G 0 dX4_likeliest_66 rfl ?_
          refine wp_istore (lv' := [(6, zI 0), (10, zI 0), (9, zI ((o k : Nat) : Int)), (0, zR 36), (1, zR 2), (2, zI ((o p : Nat) : Int)), (3, zI b), (4, zI calm), (5, zI ((lik pr fa sp q o b calm p k).1)), (7, zI ((p : Nat) : Int)), (8, zI ((k : Nat) : Int))]) G dX4_likeliest_68 (by decide) rfl ?_
          refine wp_iload G 2 dX4_likeliest_70 rfl ?_
          refine wp_istore (lv' := [(5, zI ((o k : Nat) : Int)), (6, zI 0), (10, zI 0), (9, zI ((o k : Nat) : Int)), (0, zR 36), (1, zR 2), (2, zI ((o p : Nat) : Int)), (3, zI b), (4, zI calm), (7, zI ((p : Nat) : Int)), (8, zI ((k : Nat) : Int))]) G dX4_likeliest_72 (by decide) rfl ?_
          refine wp_iinc (lv' := [(8, zI (((k : Nat) : Int) + 1)), (5, zI ((o k : Nat) : Int)), (6, zI 0), (10, zI 0), (9, zI ((o k : Nat) : Int)), (0, zR 36), (1, zR 2), (2, zI ((o p : Nat) : Int)), (3, zI b), (4, zI calm), (7, zI ((p : Nat) : Int))]) G 10 dX4_likeliest_74 rfl (by decide) rfl ?_
          refine wp_goto G dX4_likeliest_77 ?_
          refine wp_lv [5, 6, 7, 8, 9, 1, 2, 10, 0] rfl ?_
          exact ih18 (k + 1) ((o k : Nat) : Int) 0 (((k : Nat) : Int) + 1) (by omega) (by first | (exfalso; omega) | (rw [lik_y (by assumption) (by omega)]; done) | (rw [lik_n (by intro z; first | exact absurd z.1 (by assumption) | (have := z.2; omega))])) (by first | (exfalso; omega) | (rw [lik_y (by assumption) (by omega)]; done) | (rw [lik_n (by intro z; first | exact absurd z.1 (by assumption) | (have := z.2; omega))])) (by omega) (by omega)
      · skip
        refine wp_aload_n G 1 dX4_likeliest_45 rfl ?_
        refine wp_aload_n G 2 dX4_likeliest_46 rfl ?_
        refine wp_iload_n G 3 dX4_likeliest_47 rfl ?_
        refine wp_iload G 0 dX4_likeliest_48 rfl ?_
        refine wp_cVE (b := 36) (ci := 4) (as := [zR 2, zI ((o p : Nat) : Int), zI ((o k : Nat) : Int)]) (rest := []) (hp2 := (nx, h, [])) G mX4_weight lX4_66 iX4_weight eX4_weight ⟨_, rfl, rfl⟩ dX4_likeliest_50 h36 rfl rfl (Nat.le_of_ble_eq_true rfl) (rmx_ok hR (by decide) (by decide) (by decide) (by decide)) (t_X4_weight (nx := nx) (p := p) (r := k) hQ hO hM hS hp (by omega)) rfl ?_
        refine wp_goto G dX4_likeliest_53 ?_
        refine wp_istore (lv' := [(10, zI (wpl pr fa sp q o p k)), (9, zI ((o k : Nat) : Int)), (0, zR 36), (1, zR 2), (2, zI ((o p : Nat) : Int)), (3, zI b), (4, zI calm), (5, zI ((lik pr fa sp q o b calm p k).1)), (6, zI ((lik pr fa sp q o b calm p k).2)), (7, zI ((p : Nat) : Int)), (8, zI ((k : Nat) : Int))]) G dX4_likeliest_57 (by decide) rfl ?_
        have hwb2 := hwb (by omega)
        refine wp_iload G 0 dX4_likeliest_59 rfl ?_
        refine wp_iload G 8 dX4_likeliest_61 rfl ?_
        refine wp_icmp_le G dX4_likeliest_63 (by omega) (by omega) (fun kq4 => ?_) (fun kq4 => ?_)
        · skip
          refine wp_iinc (lv' := [(8, zI (((k : Nat) : Int) + 1)), (10, zI (wpl pr fa sp q o p k)), (9, zI ((o k : Nat) : Int)), (0, zR 36), (1, zR 2), (2, zI ((o p : Nat) : Int)), (3, zI b), (4, zI calm), (5, zI ((lik pr fa sp q o b calm p k).1)), (6, zI ((lik pr fa sp q o b calm p k).2)), (7, zI ((p : Nat) : Int))]) G 10 dX4_likeliest_74 rfl (by decide) rfl ?_
          refine wp_goto G dX4_likeliest_77 ?_
          refine wp_lv [3, 4, 5, 6, 7, 8, 9, 10, 0] rfl ?_
          exact ih18 (k + 1) ((lik pr fa sp q o b calm p k).1) ((lik pr fa sp q o b calm p k).2) (((k : Nat) : Int) + 1) (by omega) (by first | (exfalso; omega) | (rw [lik_y (by assumption) (by omega)]; done) | (rw [lik_n (by intro z; first | exact absurd z.1 (by assumption) | (have := z.2; omega))])) (by first | (exfalso; omega) | (rw [lik_y (by assumption) (by omega)]; done) | (rw [lik_n (by intro z; first | exact absurd z.1 (by assumption) | (have := z.2; omega))])) (by omega) (by omega)
        · skip
          refine wp_iload G 0 dX4_likeliest_66 rfl ?_
          refine wp_istore (lv' := [(6, zI (wpl pr fa sp q o p k)), (10, zI (wpl pr fa sp q o p k)), (9, zI ((o k : Nat) : Int)), (0, zR 36), (1, zR 2), (2, zI ((o p : Nat) : Int)), (3, zI b), (4, zI calm), (5, zI ((lik pr fa sp q o b calm p k).1)), (7, zI ((p : Nat) : Int)), (8, zI ((k : Nat) : Int))]) G dX4_likeliest_68 (by decide) rfl ?_
          refine wp_iload G 2 dX4_likeliest_70 rfl ?_
          refine wp_istore (lv' := [(5, zI ((o k : Nat) : Int)), (6, zI (wpl pr fa sp q o p k)), (10, zI (wpl pr fa sp q o p k)), (9, zI ((o k : Nat) : Int)), (0, zR 36), (1, zR 2), (2, zI ((o p : Nat) : Int)), (3, zI b), (4, zI calm), (7, zI ((p : Nat) : Int)), (8, zI ((k : Nat) : Int))]) G dX4_likeliest_72 (by decide) rfl ?_
          refine wp_iinc (lv' := [(8, zI (((k : Nat) : Int) + 1)), (5, zI ((o k : Nat) : Int)), (6, zI (wpl pr fa sp q o p k)), (10, zI (wpl pr fa sp q o p k)), (9, zI ((o k : Nat) : Int)), (0, zR 36), (1, zR 2), (2, zI ((o p : Nat) : Int)), (3, zI b), (4, zI calm), (7, zI ((p : Nat) : Int))]) G 10 dX4_likeliest_74 rfl (by decide) rfl ?_
          refine wp_goto G dX4_likeliest_77 ?_
          refine wp_lv [5, 6, 7, 8, 9, 1, 2, 10, 0] rfl ?_
          exact ih18 (k + 1) ((o k : Nat) : Int) (wpl pr fa sp q o p k) (((k : Nat) : Int) + 1) (by omega) (by first | (exfalso; omega) | (rw [lik_y (by assumption) (by omega)]; done) | (rw [lik_n (by intro z; first | exact absurd z.1 (by assumption) | (have := z.2; omega))])) (by first | (exfalso; omega) | (rw [lik_y (by assumption) (by omega)]; done) | (rw [lik_n (by intro z; first | exact absurd z.1 (by assumption) | (have := z.2; omega))])) (by omega) (by omega)

set_option maxRecDepth 100000 in
set_option maxHeartbeats 4000000 in
theorem t_X4_trace {nx : Nat} {h : Nat → Option PC} {n : Nat} {q : Nat → Nat → Int} {o : Nat → Nat} {pr : Nat → Int} {fa : Nat → Int} {sp : Nat → Int} {fo : Nat → Int} {de : Nat → Int} {calm : Int} {b : Int} (hQ : isQ h n q o) (hO : okQ n q o) (hM : isMo h pr fa sp fo de) (hS : okS pr fa sp) (hc : 1 ≤ calm ∧ calm ≤ 100000) (ri_b : r32 b) : Cx 5 (0, 0) yX4_trace cX4_trace 7 none [zR 36, zR 2, zI b, zI calm] nx h (Rn nx [(40, oA 0 40 ((trF pr fa sp q o b calm fo de n).1)), (41, oA 0 40 ((trF pr fa sp q o b calm fo de n).2))]) := by
  refine cx_of pnX4_trace (Nat.le_of_ble_eq_true rfl) ?_
  intro K G hr hnm hR
  obtain ⟨h2, h3, h4, h5, h6, h7, h8, h9, h10⟩ := id hQ
  have hn40 := hO.1
  obtain ⟨h36, h37, h38, h39, h40, h41⟩ := id hM
  show Wp K 7 (Mx K h (Rn nx [(40, oA 0 40 ((trF pr fa sp q o b calm fo de n).1)), (41, oA 0 40 ((trF pr fa sp q o b calm fo de n).2))]) (0, 0)) (0, 0) 0 [(0, zR 36), (1, zR 2), (2, zI b), (3, zI calm)] [] (nx, h, [])
  refine wp_iconst G dX4_trace_0 ?_
  refine wp_istore (lv' := [(4, zI 0), (0, zR 36), (1, zR 2), (2, zI b), (3, zI calm)]) G dX4_trace_1 (by decide) rfl ?_
  refine wp_own (r := 40) (hp2 := (nx, h, [(40, oA 0 40 fo)])) h40 rfl ?_
  refine wp_own (r := 41) (hp2 := (nx, h, [(40, oA 0 40 fo), (41, oA 0 40 de)])) h41 rfl ?_
  refine wp_lv [1, 2, 3, 4, 0] rfl ?_
  suffices lp3 : ∀ (fu : Nat) (k : Nat) (v4 : Int) (A40 : Nat → Int) (A41 : Nat → Int), n - k < fu → (v4 = ((k : Nat) : Int)) → (A40 = (trF pr fa sp q o b calm fo de k).1) → (A41 = (trF pr fa sp q o b calm fo de k).2) → (k ≤ n) → Wp K 7 (Mx K h (Rn nx [(40, oA 0 40 ((trF pr fa sp q o b calm fo de n).1)), (41, oA 0 40 ((trF pr fa sp q o b calm fo de n).2))]) (0, 0)) (0, 0) 3 [(0, zR 36), (1, zR 2), (2, zI b), (3, zI calm), (4, zI v4)] [] (nx, h, [(40, oA 0 40 A40), (41, oA 0 40 A41)]) from lp3 _ 0 0 fo de (Nat.lt_succ_self _) (by omega) (by rfl) (by rfl) (by omega)
  intro fu
  induction fu with
  | zero => intro k v4 A40 A41 hm; exact absurd hm (Nat.not_lt_zero _)
  | succ fu ih3 =>
    intro k v4 A40 A41 hm3 e4 eA40 eA41 hi0
    subst e4
    subst eA40
    subst eA41
    refine wp_iload G 4 dX4_trace_3 rfl ?_
    refine wp_aload_n G 1 dX4_trace_5 rfl ?_
    refine wp_get G 0 cOk5 fX4_73 dX4_trace_6 h2 rfl ?_
    refine wp_icmp_ge G dX4_trace_9 (by omega) (by omega) (fun kq1 => ?_) (fun kq1 => ?_)
    · skip
      exact wp_vreturn G hr dX4_trace_119 ⟨rfl, rfl, by rw [show k = n by omega]⟩
    · skip
      refine wp_aload_n G 1 dX4_trace_12 rfl ?_
      refine wp_get G 8 cOk5 fX4_70 dX4_trace_13 h2 rfl ?_
      refine wp_iload G 4 dX4_trace_16 rfl ?_
      refine wp_iald (j := k) G dX4_trace_18 h10 rfl (by omega) (by decide) ?_
      have rrq1 := hO.o k (by omega)
      refine wp_istore (lv' := [(5, zI ((o k : Nat) : Int)), (0, zR 36), (1, zR 2), (2, zI b), (3, zI calm), (4, zI ((k : Nat) : Int))]) G dX4_trace_19 (by decide) rfl ?_
      have hok := hO.o k (by omega)
      refine wp_aload_n G 1 dX4_trace_21 rfl ?_
      refine wp_get G 3 cOk4 fX4_23 dX4_trace_22 h36 rfl ?_
      refine wp_iload G 0 dX4_trace_25 rfl ?_
      refine wp_bipush G dX4_trace_27 (by decide) ?_
      refine wp_iastE (j := o k) (hp2 := (nx, h, [(40, oA 0 40 (fup ((trF pr fa sp q o b calm fo de k).1) (o k) (-6))), (41, oA 0 40 ((trF pr fa sp q o b calm fo de k).2))])) G dX4_trace_29 rfl rfl (by omega) (by decide) rfl ?_
      refine wp_aload_n G 1 dX4_trace_30 rfl ?_
      refine wp_get G 4 cOk4 fX4_26 dX4_trace_31 h36 rfl ?_
      refine wp_iload G 0 dX4_trace_34 rfl ?_
      refine wp_iconst G dX4_trace_36 ?_
      refine wp_iastE (j := o k) (hp2 := (nx, h, [(40, oA 0 40 (fup ((trF pr fa sp q o b calm fo de k).1) (o k) (-6))), (41, oA 0 40 (fup ((trF pr fa sp q o b calm fo de k).2) (o k) 0))])) G dX4_trace_37 rfl rfl (by omega) (by decide) rfl ?_
      refine wp_aload_n G 2 dX4_trace_38 rfl ?_
      refine wp_iload G 0 dX4_trace_39 rfl ?_
      refine wp_iconst G dX4_trace_41 ?_
      refine wp_iload_n G 3 dX4_trace_42 rfl ?_
      refine wp_cVE (b := 2) (ci := 5) (as := [zI ((o k : Nat) : Int), zI (-1), zI b]) (rest := []) (hp2 := (nx, h, [(40, oA 0 40 (fup ((trF pr fa sp q o b calm fo de k).1) (o k) (-6))), (41, oA 0 40 (fup ((trF pr fa sp q o b calm fo de k).2) (o k) 0))])) G mX6_isCounted lX4_59 iX6_isCounted eX6_isCounted ⟨_, rfl, rfl⟩ dX4_trace_43 h2 rfl rfl (Nat.le_of_ble_eq_true rfl) (rmx_ok hR (by decide) (by decide) (by decide) (by decide)) (t_X6_isCounted (nx := nx) (j := (o k)) (a := (-1)) (b := b) hQ hO hok (by omega) ri_b) rfl ?_
      refine wp_ifeq_bt G dX4_trace_46 (fun kq2 => ?_) (fun kq2 => ?_)
      · skip
        refine wp_iinc (lv' := [(4, zI (((k : Nat) : Int) + 1)), (5, zI ((o k : Nat) : Int)), (0, zR 36), (1, zR 2), (2, zI b), (3, zI calm)]) G 5 dX4_trace_113 rfl (by decide) rfl ?_
        refine wp_goto G dX4_trace_116 ?_
        refine wp_lv [2, 3, 4, 5, 0] rfl ?_
        exact ih3 (k + 1) (((k : Nat) : Int) + 1) (fup ((trF pr fa sp q o b calm fo de k).1) (o k) (-6)) (fup ((trF pr fa sp q o b calm fo de k).2) (o k) 0) (by omega) (by omega) (by first | (rw [trF_y (by assumption)]; simp only [if_pos (show (lik pr fa sp q o b calm k k).1 = -6 by omega)]; done) | (rw [trF_y (by assumption)]; simp only [if_neg (show ¬ (lik pr fa sp q o b calm k k).1 = -6 by omega)]; done) | (rw [trF_n (by assumption)])) (by first | (rw [trF_y (by assumption)]; simp only [if_pos (show (lik pr fa sp q o b calm k k).1 = -6 by omega)]; done) | (rw [trF_y (by assumption)]; simp only [if_neg (show ¬ (lik pr fa sp q o b calm k k).1 = -6 by omega)]; done) | (rw [trF_n (by assumption)])) (by omega)
      · skip
        refine wp_aload_n G 1 dX4_trace_49 rfl ?_
        refine wp_aload_n G 2 dX4_trace_50 rfl ?_
        refine wp_iload G 0 dX4_trace_51 rfl ?_
        refine wp_iload_n G 3 dX4_trace_53 rfl ?_
        refine wp_iload_n G 4 dX4_trace_54 rfl ?_
        refine wp_cVE (b := 36) (ci := 4) (as := [zR 2, zI ((o k : Nat) : Int), zI b, zI calm]) (rest := []) (hp2 := (nx, h, [(40, oA 0 40 (fup ((trF pr fa sp q o b calm fo de k).1) (o k) (-6))), (41, oA 0 40 (fup ((trF pr fa sp q o b calm fo de k).2) (o k) 0))])) G mX4_likeliest lX4_77 iX4_likeliest eX4_likeliest ⟨_, rfl, rfl⟩ dX4_trace_55 h36 rfl rfl (Nat.le_of_ble_eq_true rfl) (rmx_ok hR (by decide) (by decide) (by decide) (by decide)) (t_X4_likeliest (nx := nx) (p := k) (b := b) (calm := calm) (fo := (fup (trF pr fa sp q o b calm fo de k).1 (o k) (-6))) (de := (fup (trF pr fa sp q o b calm fo de k).2 (o k) 0)) hQ hO ⟨h36, h37, h38, h39, rfl, rfl⟩ hS (by omega) hc ri_b) rfl ?_
        refine wp_istore (lv' := [(6, zI ((lik pr fa sp q o b calm k k).1)), (5, zI ((o k : Nat) : Int)), (0, zR 36), (1, zR 2), (2, zI b), (3, zI calm), (4, zI ((k : Nat) : Int))]) G dX4_trace_58 (by decide) rfl ?_
        have hli := lik_i (p := k) (r := k) (b := b) hS hO hc (by omega)
        refine wp_aload_n G 2 dX4_trace_60 rfl ?_
        refine wp_get G 3 cOk4 fX4_23 dX4_trace_61 h36 rfl ?_
        refine wp_iload G 1 dX4_trace_64 rfl ?_
        refine wp_iload G 0 dX4_trace_66 rfl ?_
        refine wp_bipush G dX4_trace_68 (by decide) ?_
        refine wp_icmp_ne G dX4_trace_70 (by omega) (by omega) (fun kq3 => ?_) (fun kq3 => ?_)
        · skip
          refine wp_aload_n G 2 dX4_trace_78 rfl ?_
          refine wp_get G 3 cOk4 fX4_23 dX4_trace_79 h36 rfl ?_
          refine wp_iload G 0 dX4_trace_82 rfl ?_
          refine wp_iald (j := ((lik pr fa sp q o b calm k k).1).toNat) G dX4_trace_84 rfl (by omega) (by omega) (by decide) ?_
          refine wp_iastE (j := o k) (hp2 := (nx, h, [(40, oA 0 40 (fup (fup ((trF pr fa sp q o b calm fo de k).1) (o k) (-6)) (o k) (fup ((trF pr fa sp q o b calm fo de k).1) (o k) (-6) (((lik pr fa sp q o b calm k k).1).toNat)))), (41, oA 0 40 (fup ((trF pr fa sp q o b calm fo de k).2) (o k) 0))])) G dX4_trace_85 rfl rfl (by omega) (by decide) rfl ?_
          refine wp_aload_n G 2 dX4_trace_86 rfl ?_
          refine wp_get G 4 cOk4 fX4_26 dX4_trace_87 h36 rfl ?_
          refine wp_iload G 1 dX4_trace_90 rfl ?_
          refine wp_iload G 0 dX4_trace_92 rfl ?_
          refine wp_bipush G dX4_trace_94 (by decide) ?_
          refine wp_icmp_ne G dX4_trace_96 (by omega) (by omega) (fun kq4 => ?_) (fun kq4 => ?_)
          · skip
            refine wp_aload_n G 2 dX4_trace_103 rfl ?_
            refine wp_get G 4 cOk4 fX4_26 dX4_trace_104 h36 rfl ?_
            refine wp_iload G 0 dX4_trace_107 rfl ?_
            refine wp_iald (j := ((lik pr fa sp q o b calm k k).1).toNat) G dX4_trace_109 rfl (by omega) (by omega) (by decide) ?_
            refine wp_iconst G dX4_trace_110 ?_
            refine wp_iadd G dX4_trace_111 ?_
            refine wp_iastE (j := o k) (hp2 := (nx, h, [(40, oA 0 40 (fup (fup ((trF pr fa sp q o b calm fo de k).1) (o k) (-6)) (o k) (fup ((trF pr fa sp q o b calm fo de k).1) (o k) (-6) (((lik pr fa sp q o b calm k k).1).toNat)))), (41, oA 0 40 (fup (fup ((trF pr fa sp q o b calm fo de k).2) (o k) 0) (o k) ((fup ((trF pr fa sp q o b calm fo de k).2) (o k) 0 (((lik pr fa sp q o b calm k k).1).toNat)) + 1)))])) G dX4_trace_112 rfl rfl (by omega) (by decide) rfl ?_
            refine wp_iinc (lv' := [(4, zI (((k : Nat) : Int) + 1)), (6, zI ((lik pr fa sp q o b calm k k).1)), (5, zI ((o k : Nat) : Int)), (0, zR 36), (1, zR 2), (2, zI b), (3, zI calm)]) G 6 dX4_trace_113 rfl (by decide) rfl ?_
            refine wp_goto G dX4_trace_116 ?_
            refine wp_lv [3, 4, 5, 6, 0] rfl ?_
            exact ih3 (k + 1) (((k : Nat) : Int) + 1) (fup (fup ((trF pr fa sp q o b calm fo de k).1) (o k) (-6)) (o k) (fup ((trF pr fa sp q o b calm fo de k).1) (o k) (-6) (((lik pr fa sp q o b calm k k).1).toNat))) (fup (fup ((trF pr fa sp q o b calm fo de k).2) (o k) 0) (o k) ((fup ((trF pr fa sp q o b calm fo de k).2) (o k) 0 (((lik pr fa sp q o b calm k k).1).toNat)) + 1)) (by omega) (by omega) (by first | (rw [trF_y (by assumption)]; simp only [if_pos (show (lik pr fa sp q o b calm k k).1 = -6 by omega)]; done) | (rw [trF_y (by assumption)]; simp only [if_neg (show ¬ (lik pr fa sp q o b calm k k).1 = -6 by omega)]; done) | (rw [trF_n (by assumption)])) (by first | (rw [trF_y (by assumption)]; simp only [if_pos (show (lik pr fa sp q o b calm k k).1 = -6 by omega)]; done) | (rw [trF_y (by assumption)]; simp only [if_neg (show ¬ (lik pr fa sp q o b calm k k).1 = -6 by omega)]; done) | (rw [trF_n (by assumption)])) (by omega)
          · skip
            refine wp_iconst G dX4_trace_99 ?_
            refine wp_goto G dX4_trace_100 ?_
            refine wp_iastE (j := o k) (hp2 := (nx, h, [(40, oA 0 40 (fup (fup ((trF pr fa sp q o b calm fo de k).1) (o k) (-6)) (o k) (fup ((trF pr fa sp q o b calm fo de k).1) (o k) (-6) (((lik pr fa sp q o b calm k k).1).toNat)))), (41, oA 0 40 (fup (fup ((trF pr fa sp q o b calm fo de k).2) (o k) 0) (o k) 0))])) G dX4_trace_112 rfl rfl (by omega) (by decide) rfl ?_
            refine wp_iinc (lv' := [(4, zI (((k : Nat) : Int) + 1)), (6, zI ((lik pr fa sp q o b calm k k).1)), (5, zI ((o k : Nat) : Int)), (0, zR 36), (1, zR 2), (2, zI b), (3, zI calm)]) G 6 dX4_trace_113 rfl (by decide) rfl ?_
            refine wp_goto G dX4_trace_116 ?_
            refine wp_lv [3, 4, 5, 6, 0] rfl ?_
            exact ih3 (k + 1) (((k : Nat) : Int) + 1) (fup (fup ((trF pr fa sp q o b calm fo de k).1) (o k) (-6)) (o k) (fup ((trF pr fa sp q o b calm fo de k).1) (o k) (-6) (((lik pr fa sp q o b calm k k).1).toNat))) (fup (fup ((trF pr fa sp q o b calm fo de k).2) (o k) 0) (o k) 0) (by omega) (by omega) (by first | (rw [trF_y (by assumption)]; simp only [if_pos (show (lik pr fa sp q o b calm k k).1 = -6 by omega)]; done) | (rw [trF_y (by assumption)]; simp only [if_neg (show ¬ (lik pr fa sp q o b calm k k).1 = -6 by omega)]; done) | (rw [trF_n (by assumption)])) (by first | (rw [trF_y (by assumption)]; simp only [if_pos (show (lik pr fa sp q o b calm k k).1 = -6 by omega)]; done) | (rw [trF_y (by assumption)]; simp only [if_neg (show ¬ (lik pr fa sp q o b calm k k).1 = -6 by omega)]; done) | (rw [trF_n (by assumption)])) (by omega)
        · skip
          refine wp_iload G 1 dX4_trace_73 rfl ?_
          refine wp_goto G dX4_trace_75 ?_
          refine wp_iastE (j := o k) (hp2 := (nx, h, [(40, oA 0 40 (fup (fup ((trF pr fa sp q o b calm fo de k).1) (o k) (-6)) (o k) ((o k : Nat) : Int))), (41, oA 0 40 (fup ((trF pr fa sp q o b calm fo de k).2) (o k) 0))])) G dX4_trace_85 rfl rfl (by omega) (by decide) rfl ?_
          refine wp_aload_n G 2 dX4_trace_86 rfl ?_
          refine wp_get G 4 cOk4 fX4_26 dX4_trace_87 h36 rfl ?_
          refine wp_iload G 1 dX4_trace_90 rfl ?_
          refine wp_iload G 0 dX4_trace_92 rfl ?_
          refine wp_bipush G dX4_trace_94 (by decide) ?_
          refine wp_icmp_ne G dX4_trace_96 (by omega) (by omega) (fun kq5 => ?_) (fun kq5 => ?_)
          · skip
            refine wp_aload_n G 2 dX4_trace_103 rfl ?_
            refine wp_get G 4 cOk4 fX4_26 dX4_trace_104 h36 rfl ?_
            refine wp_iload G 0 dX4_trace_107 rfl ?_
            refine wp_iald (j := ((lik pr fa sp q o b calm k k).1).toNat) G dX4_trace_109 rfl (by omega) (by omega) (by decide) ?_
            refine wp_iconst G dX4_trace_110 ?_
            refine wp_iadd G dX4_trace_111 ?_
            refine wp_iastE (j := o k) (hp2 := (nx, h, [(40, oA 0 40 (fup (fup ((trF pr fa sp q o b calm fo de k).1) (o k) (-6)) (o k) ((o k : Nat) : Int))), (41, oA 0 40 (fup (fup ((trF pr fa sp q o b calm fo de k).2) (o k) 0) (o k) ((fup ((trF pr fa sp q o b calm fo de k).2) (o k) 0 (((lik pr fa sp q o b calm k k).1).toNat)) + 1)))])) G dX4_trace_112 rfl rfl (by omega) (by decide) rfl ?_
            refine wp_iinc (lv' := [(4, zI (((k : Nat) : Int) + 1)), (6, zI ((lik pr fa sp q o b calm k k).1)), (5, zI ((o k : Nat) : Int)), (0, zR 36), (1, zR 2), (2, zI b), (3, zI calm)]) G 6 dX4_trace_113 rfl (by decide) rfl ?_
            refine wp_goto G dX4_trace_116 ?_
            refine wp_lv [3, 4, 5, 6, 0] rfl ?_
            exact ih3 (k + 1) (((k : Nat) : Int) + 1) (fup (fup ((trF pr fa sp q o b calm fo de k).1) (o k) (-6)) (o k) ((o k : Nat) : Int)) (fup (fup ((trF pr fa sp q o b calm fo de k).2) (o k) 0) (o k) ((fup ((trF pr fa sp q o b calm fo de k).2) (o k) 0 (((lik pr fa sp q o b calm k k).1).toNat)) + 1)) (by omega) (by omega) (by first | (rw [trF_y (by assumption)]; simp only [if_pos (show (lik pr fa sp q o b calm k k).1 = -6 by omega)]; done) | (rw [trF_y (by assumption)]; simp only [if_neg (show ¬ (lik pr fa sp q o b calm k k).1 = -6 by omega)]; done) | (rw [trF_n (by assumption)])) (by first | (rw [trF_y (by assumption)]; simp only [if_pos (show (lik pr fa sp q o b calm k k).1 = -6 by omega)]; done) | (rw [trF_y (by assumption)]; simp only [if_neg (show ¬ (lik pr fa sp q o b calm k k).1 = -6 by omega)]; done) | (rw [trF_n (by assumption)])) (by omega)
          · skip
            refine wp_iconst G dX4_trace_99 ?_
            refine wp_goto G dX4_trace_100 ?_
            refine wp_iastE (j := o k) (hp2 := (nx, h, [(40, oA 0 40 (fup (fup ((trF pr fa sp q o b calm fo de k).1) (o k) (-6)) (o k) ((o k : Nat) : Int))), (41, oA 0 40 (fup (fup ((trF pr fa sp q o b calm fo de k).2) (o k) 0) (o k) 0))])) G dX4_trace_112 rfl rfl (by omega) (by decide) rfl ?_
            refine wp_iinc (lv' := [(4, zI (((k : Nat) : Int) + 1)), (6, zI ((lik pr fa sp q o b calm k k).1)), (5, zI ((o k : Nat) : Int)), (0, zR 36), (1, zR 2), (2, zI b), (3, zI calm)]) G 6 dX4_trace_113 rfl (by decide) rfl ?_
            refine wp_goto G dX4_trace_116 ?_
            refine wp_lv [3, 4, 5, 6, 0] rfl ?_
            exact ih3 (k + 1) (((k : Nat) : Int) + 1) (fup (fup ((trF pr fa sp q o b calm fo de k).1) (o k) (-6)) (o k) ((o k : Nat) : Int)) (fup (fup ((trF pr fa sp q o b calm fo de k).2) (o k) 0) (o k) 0) (by omega) (by omega) (by first | (rw [trF_y (by assumption)]; simp only [if_pos (show (lik pr fa sp q o b calm k k).1 = -6 by omega)]; done) | (rw [trF_y (by assumption)]; simp only [if_neg (show ¬ (lik pr fa sp q o b calm k k).1 = -6 by omega)]; done) | (rw [trF_n (by assumption)])) (by first | (rw [trF_y (by assumption)]; simp only [if_pos (show (lik pr fa sp q o b calm k k).1 = -6 by omega)]; done) | (rw [trF_y (by assumption)]; simp only [if_neg (show ¬ (lik pr fa sp q o b calm k k).1 = -6 by omega)]; done) | (rw [trF_n (by assumption)])) (by omega)

