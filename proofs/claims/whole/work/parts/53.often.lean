noncomputable def ansO (n : Nat) (q : Nat → Nat → Int) (a b m : Int) : Int := if ¬ (-1 ≤ a ∧ a ≤ 2) then -1 else if ¬ ((0 ≤ b ∧ b ≤ 3999) ∧ (0 ≤ m ∧ m ≤ 90)) then -2 else cntZ (fun j => cnd q a b j ∧ m ≤ q 4 j) n
theorem ansO_1 {n : Nat} {q : Nat → Nat → Int} {a b m : Int} (h : ¬ (-1 ≤ a ∧ a ≤ 2)) : ansO n q a b m = -1 := if_pos h
theorem ansO_2 {n : Nat} {q : Nat → Nat → Int} {a b m : Int} (h1 : -1 ≤ a ∧ a ≤ 2) (h : ¬ ((0 ≤ b ∧ b ≤ 3999) ∧ (0 ≤ m ∧ m ≤ 90))) : ansO n q a b m = -2 := by
  unfold ansO
  rw [if_neg (fun z => z h1), if_pos h]
theorem ansO_3 {n : Nat} {q : Nat → Nat → Int} {a b m : Int} (h1 : -1 ≤ a ∧ a ≤ 2) (h : (0 ≤ b ∧ b ≤ 3999) ∧ (0 ≤ m ∧ m ≤ 90)) : ansO n q a b m = cntZ (fun j => cnd q a b j ∧ m ≤ q 4 j) n := by
  unfold ansO
  rw [if_neg (fun z => z h1), if_neg (fun z => z h)]

set_option maxRecDepth 100000 in
set_option maxHeartbeats 4000000 in
theorem t_X9_often {nx : Nat} {h : Nat → Option PC} {n : Nat} {q : Nat → Nat → Int} {o : Nat → Nat} {ta : Nat → Int} {fc : Nat} {a : Int} {b : Int} {m : Int} (hQ : isQ h n q o) (hO : okQ n q o) (g34 : h 34 = some (oO 0 [zR 35])) (g35 : h 35 = some (oA 0 91 ta)) (h0 : h 0 = some (oO 8 [zR 1, zR 2, zR 11, zR 34, zR 36, zR 42, zR 44, zI ((fc : Nat) : Int), zR 45, zR 48])) (ri_a : r32 a) (ri_b : r32 b) (ri_m : r32 m) : Cx 3 (0, 0) yX9_often cX9_often 4 (some .int) [zR 0, zI a, zI b, zI m] nx h (Rt (zI (ansO n q a b m)) nx []) := by
  refine cx_of pnX9_often (Nat.le_of_ble_eq_true rfl) ?_
  intro K G hr hnm hR
  obtain ⟨h2, h3, h4, h5, h6, h7, h8, h9, h10⟩ := id hQ
  have hn40 := hO.1
  show Wp K 4 (Mx K h (Rt (zI (ansO n q a b m)) nx []) (0, 0)) (0, 0) 0 [(0, zR 0), (1, zI a), (2, zI b), (3, zI m)] [] (nx, h, [])
  refine wp_iload_n G 1 dX9_often_0 rfl ?_
  refine wp_cSE (as := [zI a]) (rest := []) (hp2 := (nx, h, [])) G mX9_isListOrAll lX9_153 sX9_isListOrAll dX9_often_1 rfl rfl (Nat.le_of_ble_eq_true rfl) (rmx_ok hR (by decide) (by decide) (by decide) (by decide)) (t_X9_isListOrAll (nx := nx) (v := a) (by omega)) rfl ?_
  refine wp_ifne_bt G dX9_often_4 (fun kq1 => ?_) (fun kq1 => ?_)
  · skip
    refine wp_iload_n G 2 dX9_often_9 rfl ?_
    refine wp_cSE (as := [zI b]) (rest := []) (hp2 := (nx, h, [])) G mX9_isDay lX9_80 sX9_isDay dX9_often_10 rfl rfl (Nat.le_of_ble_eq_true rfl) (rmx_ok hR (by decide) (by decide) (by decide) (by decide)) (t_X9_isDay (nx := nx) (v := b) (by omega)) rfl ?_
    refine wp_ifeq_bt G dX9_often_13 (fun kq2 => ?_) (fun kq2 => ?_)
    · skip
      refine wp_bipush G dX9_often_23 (by decide) ?_
      exact wp_ireturn G hr dX9_often_25 ⟨by first | (rw [ansO_1 (by omega)]; done) | (rw [ansO_2 (by omega) (by omega)]; done) | (rw [ansO_3 (by omega) (by omega)]), rfl, by rfl⟩
    · skip
      refine wp_iload_n G 3 dX9_often_16 rfl ?_
      refine wp_cSE (as := [zI m]) (rest := []) (hp2 := (nx, h, [])) G mX9_isGreatness lX9_83 sX9_isGreatness dX9_often_17 rfl rfl (Nat.le_of_ble_eq_true rfl) (rmx_ok hR (by decide) (by decide) (by decide) (by decide)) (t_X9_isGreatness (nx := nx) (v := m) (by omega)) rfl ?_
      refine wp_ifne_bt G dX9_often_20 (fun kq3 => ?_) (fun kq3 => ?_)
      · skip
        refine wp_aload_n G 0 dX9_often_26 rfl ?_
        refine wp_get G 3 cOk8 fX9_30 dX9_often_27 h0 rfl ?_
        refine wp_aload_n G 0 dX9_often_30 rfl ?_
        refine wp_get G 1 cOk8 fX9_16 dX9_often_31 h0 rfl ?_
        refine wp_iload_n G 1 dX9_often_34 rfl ?_
        refine wp_iload_n G 2 dX9_often_35 rfl ?_
        refine wp_iload_n G 3 dX9_often_36 rfl ?_
        refine wp_cVE (b := 34) (ci := 0) (as := [zR 2, zI a, zI b, zI m]) (rest := []) (hp2 := (nx, h, [])) G mX0_howMany lX9_156 iX0_howMany eX0_howMany ⟨_, rfl, rfl⟩ dX9_often_37 g34 rfl rfl (Nat.le_of_ble_eq_true rfl) (rmx_ok hR (by decide) (by decide) (by decide) (by decide)) (t_X0_howMany (nx := nx) (a := a) (b := b) (m := m) hQ hO g34 g35 ri_a ri_b ri_m) rfl ?_
        exact wp_ireturn G hr dX9_often_40 ⟨by first | (rw [ansO_1 (by omega)]; done) | (rw [ansO_2 (by omega) (by omega)]; done) | (rw [ansO_3 (by omega) (by omega)]), rfl, by rfl⟩
      · skip
        refine wp_bipush G dX9_often_23 (by decide) ?_
        exact wp_ireturn G hr dX9_often_25 ⟨by first | (rw [ansO_1 (by omega)]; done) | (rw [ansO_2 (by omega) (by omega)]; done) | (rw [ansO_3 (by omega) (by omega)]), rfl, by rfl⟩
  · skip
    refine wp_iconst G dX9_often_7 ?_
    exact wp_ireturn G hr dX9_often_8 ⟨by first | (rw [ansO_1 (by omega)]; done) | (rw [ansO_2 (by omega) (by omega)]; done) | (rw [ansO_3 (by omega) (by omega)]), rfl, by rfl⟩

set_option maxRecDepth 100000 in
set_option maxHeartbeats 4000000 in
theorem t_X10_often {nx : Nat} {h : Nat → Option PC} {n : Nat} {q : Nat → Nat → Int} {o : Nat → Nat} {fc : Nat} {hn : Nat} {ln : Nat} {ma : Int} {mb : Int} {st : Nat → Int} {a : Int} {b : Int} {m : Int} (hQ : isM h n q o fc hn ln ma mb st) (hO : okQ n q o) (hN : okN st) (ri_a : r32 a) (ri_b : r32 b) (ri_m : r32 m) : Cx 3 (0, 0) yX10_often cX10_often 4 (some .int) [zR 64, zI a, zI b, zI m] nx h (Rt (zI (ansO n q a b m)) nx []) := by
  refine cx_of pnX10_often (Nat.le_of_ble_eq_true rfl) ?_
  intro K G hr hnm hR
  obtain ⟨h64, h65, h66, h67, h68, h69, h70, h71, h72, h73⟩ := id hQ
  have hn40 := hO.1
  obtain ⟨hN0, hN1, hN2, hN3, hN4⟩ := id hN
  show Wp K 4 (Mx K h (Rt (zI (ansO n q a b m)) nx []) (0, 0)) (0, 0) 0 [(0, zR 64), (1, zI a), (2, zI b), (3, zI m)] [] (nx, h, [])
  refine wp_iload_n G 1 dX10_often_0 rfl ?_
  refine wp_cSE (as := [zI a]) (rest := []) (hp2 := (nx, h, [])) G mX10_mayList lX10_173 sX10_mayList dX10_often_1 rfl rfl (Nat.le_of_ble_eq_true rfl) (rmx_ok hR (by decide) (by decide) (by decide) (by decide)) (t_X10_mayList (nx := nx) (v := a) (by omega)) rfl ?_
  refine wp_ifne_bt G dX10_often_4 (fun kq1 => ?_) (fun kq1 => ?_)
  · skip
    refine wp_iload_n G 2 dX10_often_9 rfl ?_
    refine wp_cSE (as := [zI b]) (rest := []) (hp2 := (nx, h, [])) G mX10_isDay lX10_120 sX10_isDay dX10_often_10 rfl rfl (Nat.le_of_ble_eq_true rfl) (rmx_ok hR (by decide) (by decide) (by decide) (by decide)) (t_X10_isDay (nx := nx) (v := b) (by omega)) rfl ?_
    refine wp_ifeq_bt G dX10_often_13 (fun kq2 => ?_) (fun kq2 => ?_)
    · skip
      refine wp_bipush G dX10_often_33 (by decide) ?_
      exact wp_ireturn G hr dX10_often_35 ⟨by first | (rw [ansO_1 (by omega)]; done) | (rw [ansO_2 (by omega) (by omega)]; done) | (rw [ansO_3 (by omega) (by omega)]), rfl, by rfl⟩
    · skip
      refine wp_iload_n G 3 dX10_often_16 rfl ?_
      refine wp_cSE (as := [zI m]) (rest := []) (hp2 := (nx, h, [])) G mX10_isGreat lX10_123 sX10_isGreat dX10_often_17 rfl rfl (Nat.le_of_ble_eq_true rfl) (rmx_ok hR (by decide) (by decide) (by decide) (by decide)) (t_X10_isGreat (nx := nx) (v := m) (by omega)) rfl ?_
      refine wp_ifeq_bt G dX10_often_20 (fun kq3 => ?_) (fun kq3 => ?_)
      · skip
        refine wp_bipush G dX10_often_33 (by decide) ?_
        exact wp_ireturn G hr dX10_often_35 ⟨by first | (rw [ansO_1 (by omega)]; done) | (rw [ansO_2 (by omega) (by omega)]; done) | (rw [ansO_3 (by omega) (by omega)]), rfl, by rfl⟩
      · skip
        refine wp_aload_n G 0 dX10_often_23 rfl ?_
        refine wp_iload_n G 1 dX10_often_24 rfl ?_
        refine wp_iload_n G 2 dX10_often_25 rfl ?_
        refine wp_iload_n G 3 dX10_often_26 rfl ?_
        refine wp_cVE (b := 64) (ci := 9) (as := [zI a, zI b, zI m]) (rest := []) (hp2 := (nx, h, [])) G mX10_countOf lX10_176 iX10_countOf eX10_countOf ⟨_, rfl, rfl⟩ dX10_often_27 h64 rfl rfl (Nat.le_of_ble_eq_true rfl) (rmx_ok hR (by decide) (by decide) (by decide) (by decide)) (t_X10_countOf (nx := nx) (a := a) (b := b) (m := m) hQ hO hN (by omega) ri_b ri_m) rfl ?_
        refine wp_goto G dX10_often_30 ?_
        exact wp_ireturn G hr dX10_often_35 ⟨by first | (rw [ansO_1 (by omega)]; done) | (rw [ansO_2 (by omega) (by omega)]; done) | (rw [ansO_3 (by omega) (by omega)]), rfl, by rfl⟩
  · skip
    refine wp_iconst G dX10_often_7 ?_
    exact wp_ireturn G hr dX10_often_8 ⟨by first | (rw [ansO_1 (by omega)]; done) | (rw [ansO_2 (by omega) (by omega)]; done) | (rw [ansO_3 (by omega) (by omega)]), rfl, by rfl⟩

