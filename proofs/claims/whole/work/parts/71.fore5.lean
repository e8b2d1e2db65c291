
set_option maxRecDepth 100000 in
set_option maxHeartbeats 4000000 in
theorem t_X1_init_5 {h : Nat → Option PC}  (hr_ : h 118 = some (oO 1 [zI 0, zI 0, zN, zN, zN, zN])) : Cx 1 (4, 20) yX1_init cX1_init 1 none [zR 118] 119 h (fun rr nx' l' => rr = none ∧ nx' = 123 ∧ l' = [(118, oO 1 [zI 0, zI 0, zR 119, zR 120, zR 121, zR 122]), (119, oA 0 5 (fun _ => 0)), (120, oA 0 5 (fun _ => 0)), (121, oA 0 5 (fun _ => 0)), (122, oA 0 5 (fun _ => 0))]) := by
  refine cx_of pnX1_init (Nat.le_of_ble_eq_true rfl) ?_
  intro K G hr hnm hR
  show Wp K 1 (Mx K h (fun rr nx' l' => rr = none ∧ nx' = 123 ∧ l' = [(118, oO 1 [zI 0, zI 0, zR 119, zR 120, zR 121, zR 122]), (119, oA 0 5 (fun _ => 0)), (120, oA 0 5 (fun _ => 0)), (121, oA 0 5 (fun _ => 0)), (122, oA 0 5 (fun _ => 0))]) (4, 20)) (0, 0) 0 [(0, zR 118)] [] (119, h, [])
  refine wp_aload_n G 0 dX1_init_0 rfl ?_
  refine wp_objInit G (wt_at 730 (by decide +kernel) (by decide +kernel)) (wt_at 110 (by decide +kernel) (by decide +kernel)) (wt_at 111 (by decide +kernel) (by decide +kernel)) dX1_init_1 (Nat.le_of_ble_eq_true rfl) (by rw [hR]; exact ⟨by decide, by decide⟩) ?_
  refine wp_aload_n G 0 dX1_init_4 rfl ?_
  refine wp_iconst G dX1_init_5 ?_
  refine wp_putE (hp2 := (119, h, [(118, oO 1 [zI 0, zI 0, zN, zN, zN, zN])])) G 0 cOk1 fX1_7 dX1_init_6 hr_ (Nat.le_of_ble_eq_true rfl) (fit_int _) (fun _ e => by cases e; rfl) rfl ?_
  refine wp_aload_n G 0 dX1_init_9 rfl ?_
  refine wp_iconst G dX1_init_10 ?_
  refine wp_putE (hp2 := (119, h, [(118, oO 1 [zI 0, zI 0, zN, zN, zN, zN])])) G 1 cOk1 fX1_13 dX1_init_11 rfl (Nat.le_of_ble_eq_true rfl) (fit_int _) (fun _ e => by cases e; rfl) rfl ?_
  refine wp_aload_n G 0 dX1_init_14 rfl ?_
  refine wp_iconst G dX1_init_15 ?_
  refine wp_newa (t := 0) (n := 5) (c := oA 0 5 (fun _ => 0)) G (by decide) rfl (wt_at 179 (by decide +kernel) (by decide +kernel)) dX1_init_16 rfl (by decide) (newI 0 5 .int rfl) (by rw [hR]; exact ⟨by decide, by decide⟩) ?_
  show Wp K 1 (Mx K h (fun rr nx' l' => rr = none ∧ nx' = 123 ∧ l' = [(118, oO 1 [zI 0, zI 0, zR 119, zR 120, zR 121, zR 122]), (119, oA 0 5 (fun _ => 0)), (120, oA 0 5 (fun _ => 0)), (121, oA 0 5 (fun _ => 0)), (122, oA 0 5 (fun _ => 0))]) (4, 20)) (1, 5) 18 [(0, zR 118)] [zR 119, zR 118] (120, h, [(118, oO 1 [zI 0, zI 0, zN, zN, zN, zN]), (119, oA 0 5 (fun _ => 0))])
  refine wp_putFE (hp2 := (120, h, [(118, oO 1 [zI 0, zI 0, zR 119, zN, zN, zN]), (119, oA 0 5 (fun _ => 0))])) G 2 cOk1 fX1_16 dX1_init_18 rfl (Nat.le_of_ble_eq_true rfl) (fit_ref _ _) (fun _ e => by cases e; exact ⟨rfl, rfl, wt_at 735 (by decide +kernel) (by decide +kernel)⟩) hnm rfl ?_
  refine wp_aload_n G 0 dX1_init_21 rfl ?_
  refine wp_iconst G dX1_init_22 ?_
  refine wp_newa (t := 0) (n := 5) (c := oA 0 5 (fun _ => 0)) G (by decide) rfl (wt_at 179 (by decide +kernel) (by decide +kernel)) dX1_init_23 rfl (by decide) (newI 0 5 .int rfl) (by rw [hR]; exact ⟨by decide, by decide⟩) ?_
  show Wp K 1 (Mx K h (fun rr nx' l' => rr = none ∧ nx' = 123 ∧ l' = [(118, oO 1 [zI 0, zI 0, zR 119, zR 120, zR 121, zR 122]), (119, oA 0 5 (fun _ => 0)), (120, oA 0 5 (fun _ => 0)), (121, oA 0 5 (fun _ => 0)), (122, oA 0 5 (fun _ => 0))]) (4, 20)) (2, 10) 25 [(0, zR 118)] [zR 120, zR 118] (121, h, [(118, oO 1 [zI 0, zI 0, zR 119, zN, zN, zN]), (119, oA 0 5 (fun _ => 0)), (120, oA 0 5 (fun _ => 0))])
  refine wp_putFE (hp2 := (121, h, [(118, oO 1 [zI 0, zI 0, zR 119, zR 120, zN, zN]), (119, oA 0 5 (fun _ => 0)), (120, oA 0 5 (fun _ => 0))])) G 3 cOk1 fX1_20 dX1_init_25 rfl (Nat.le_of_ble_eq_true rfl) (fit_ref _ _) (fun _ e => by cases e; exact ⟨rfl, rfl, wt_at 737 (by decide +kernel) (by decide +kernel)⟩) hnm rfl ?_
  refine wp_aload_n G 0 dX1_init_28 rfl ?_
  refine wp_iconst G dX1_init_29 ?_
  refine wp_newa (t := 0) (n := 5) (c := oA 0 5 (fun _ => 0)) G (by decide) rfl (wt_at 179 (by decide +kernel) (by decide +kernel)) dX1_init_30 rfl (by decide) (newI 0 5 .int rfl) (by rw [hR]; exact ⟨by decide, by decide⟩) ?_
  show Wp K 1 (Mx K h (fun rr nx' l' => rr = none ∧ nx' = 123 ∧ l' = [(118, oO 1 [zI 0, zI 0, zR 119, zR 120, zR 121, zR 122]), (119, oA 0 5 (fun _ => 0)), (120, oA 0 5 (fun _ => 0)), (121, oA 0 5 (fun _ => 0)), (122, oA 0 5 (fun _ => 0))]) (4, 20)) (3, 15) 32 [(0, zR 118)] [zR 121, zR 118] (122, h, [(118, oO 1 [zI 0, zI 0, zR 119, zR 120, zN, zN]), (119, oA 0 5 (fun _ => 0)), (120, oA 0 5 (fun _ => 0)), (121, oA 0 5 (fun _ => 0))])
  refine wp_putFE (hp2 := (122, h, [(118, oO 1 [zI 0, zI 0, zR 119, zR 120, zR 121, zN]), (119, oA 0 5 (fun _ => 0)), (120, oA 0 5 (fun _ => 0)), (121, oA 0 5 (fun _ => 0))])) G 4 cOk1 fX1_23 dX1_init_32 rfl (Nat.le_of_ble_eq_true rfl) (fit_ref _ _) (fun _ e => by cases e; exact ⟨rfl, rfl, wt_at 739 (by decide +kernel) (by decide +kernel)⟩) hnm rfl ?_
  refine wp_aload_n G 0 dX1_init_35 rfl ?_
  refine wp_iconst G dX1_init_36 ?_
  refine wp_newa (t := 0) (n := 5) (c := oA 0 5 (fun _ => 0)) G (by decide) rfl (wt_at 179 (by decide +kernel) (by decide +kernel)) dX1_init_37 rfl (by decide) (newI 0 5 .int rfl) (by rw [hR]; exact ⟨by decide, by decide⟩) ?_
  show Wp K 1 (Mx K h (fun rr nx' l' => rr = none ∧ nx' = 123 ∧ l' = [(118, oO 1 [zI 0, zI 0, zR 119, zR 120, zR 121, zR 122]), (119, oA 0 5 (fun _ => 0)), (120, oA 0 5 (fun _ => 0)), (121, oA 0 5 (fun _ => 0)), (122, oA 0 5 (fun _ => 0))]) (4, 20)) (4, 20) 39 [(0, zR 118)] [zR 122, zR 118] (123, h, [(118, oO 1 [zI 0, zI 0, zR 119, zR 120, zR 121, zN]), (119, oA 0 5 (fun _ => 0)), (120, oA 0 5 (fun _ => 0)), (121, oA 0 5 (fun _ => 0)), (122, oA 0 5 (fun _ => 0))])
  refine wp_putFE (hp2 := (123, h, [(118, oO 1 [zI 0, zI 0, zR 119, zR 120, zR 121, zR 122]), (119, oA 0 5 (fun _ => 0)), (120, oA 0 5 (fun _ => 0)), (121, oA 0 5 (fun _ => 0)), (122, oA 0 5 (fun _ => 0))])) G 5 cOk1 fX1_26 dX1_init_39 rfl (Nat.le_of_ble_eq_true rfl) (fit_ref _ _) (fun _ e => by cases e; exact ⟨rfl, rfl, wt_at 740 (by decide +kernel) (by decide +kernel)⟩) hnm rfl ?_
  exact wp_vreturn G hr dX1_init_42 (by exact ⟨rfl, rfl, rfl⟩)

set_option maxRecDepth 100000 in
set_option maxHeartbeats 4000000 in
theorem t_X1_take_5_0 {nx : Nat} {h : Nat → Option PC} {ru : Nat} {la : Int} {dy : Nat → Int} {le : Nat → Int} {mo : Nat → Int} {ch : Nat → Int} {v : Int} (hr0 : h 118 = some (oO 1 [zI ((ru : Nat) : Int), zI la, zR 119, zR 120, zR 121, zR 122])) (hr1 : h 119 = some (oA 0 5 dy)) (hr2 : h 120 = some (oA 0 5 le)) (hr3 : h 121 = some (oA 0 5 mo)) (hr4 : h 122 = some (oA 0 5 ch)) (hru : ru < 5) : Cx 0 (0, 0) yX1_take cX1_take 3 none [zR 118, zI 0, zI v] nx h (Rn nx [(119, oA 0 5 (fup dy ru v))]) := by
  refine cx_of pnX1_take (Nat.le_of_ble_eq_true rfl) ?_
  intro K G hr hnm hR
  show Wp K 3 (Mx K h (Rn nx [(119, oA 0 5 (fup dy ru v))]) (0, 0)) (0, 0) 0 [(0, zR 118), (1, zI 0), (2, zI v)] [] (nx, h, [])
  refine wp_aload_n G 0 dX1_take_0 rfl ?_
  refine wp_get G 0 cOk1 fX1_7 dX1_take_1 hr0 rfl ?_
  refine wp_iconst G dX1_take_4 ?_
  refine wp_icmp_lt G dX1_take_5 (by omega) (by omega) (fun kq1 => ?_) (fun kq1 => ?_)
  · skip
    refine wp_iload_n G 1 dX1_take_9 rfl ?_
    refine wp_tableIn (off := 26) (tgt := 36) G dX1_take_10 (by decide) (by decide) (by decide) rfl (by decide) ?_
    refine wp_aload_n G 0 dX1_take_36 rfl ?_
    refine wp_get G 2 cOk1 fX1_16 dX1_take_37 hr0 rfl ?_
    refine wp_aload_n G 0 dX1_take_40 rfl ?_
    refine wp_get G 0 cOk1 fX1_7 dX1_take_41 hr0 rfl ?_
    refine wp_iload_n G 2 dX1_take_44 rfl ?_
    refine wp_iastE (j := ru) (hp2 := (nx, h, [(119, oA 0 5 (fup dy ru v))])) G dX1_take_45 hr1 rfl (by omega) (by decide) rfl ?_
    refine wp_goto G dX1_take_46 ?_
    exact wp_vreturn G hr dX1_take_95 ⟨rfl, rfl, by rfl⟩
  · skip
    exfalso; omega

set_option maxRecDepth 100000 in
set_option maxHeartbeats 4000000 in
theorem t_X1_take_5_1 {nx : Nat} {h : Nat → Option PC} {ru : Nat} {la : Int} {dy : Nat → Int} {le : Nat → Int} {mo : Nat → Int} {ch : Nat → Int} {v : Int} (hr0 : h 118 = some (oO 1 [zI ((ru : Nat) : Int), zI la, zR 119, zR 120, zR 121, zR 122])) (hr1 : h 119 = some (oA 0 5 dy)) (hr2 : h 120 = some (oA 0 5 le)) (hr3 : h 121 = some (oA 0 5 mo)) (hr4 : h 122 = some (oA 0 5 ch)) (hru : ru < 5) : Cx 0 (0, 0) yX1_take cX1_take 3 none [zR 118, zI 1, zI v] nx h (Rn nx [(120, oA 0 5 (fup le ru v))]) := by
  refine cx_of pnX1_take (Nat.le_of_ble_eq_true rfl) ?_
  intro K G hr hnm hR
  show Wp K 3 (Mx K h (Rn nx [(120, oA 0 5 (fup le ru v))]) (0, 0)) (0, 0) 0 [(0, zR 118), (1, zI 1), (2, zI v)] [] (nx, h, [])
  refine wp_aload_n G 0 dX1_take_0 rfl ?_
  refine wp_get G 0 cOk1 fX1_7 dX1_take_1 hr0 rfl ?_
  refine wp_iconst G dX1_take_4 ?_
  refine wp_icmp_lt G dX1_take_5 (by omega) (by omega) (fun kq1 => ?_) (fun kq1 => ?_)
  · skip
    refine wp_iload_n G 1 dX1_take_9 rfl ?_
    refine wp_tableIn (off := 39) (tgt := 49) G dX1_take_10 (by decide) (by decide) (by decide) rfl (by decide) ?_
    refine wp_aload_n G 0 dX1_take_49 rfl ?_
    refine wp_get G 3 cOk1 fX1_20 dX1_take_50 hr0 rfl ?_
    refine wp_aload_n G 0 dX1_take_53 rfl ?_
    refine wp_get G 0 cOk1 fX1_7 dX1_take_54 hr0 rfl ?_
    refine wp_iload_n G 2 dX1_take_57 rfl ?_
    refine wp_iastE (j := ru) (hp2 := (nx, h, [(120, oA 0 5 (fup le ru v))])) G dX1_take_58 hr2 rfl (by omega) (by decide) rfl ?_
    refine wp_goto G dX1_take_59 ?_
    exact wp_vreturn G hr dX1_take_95 ⟨rfl, rfl, by rfl⟩
  · skip
    exfalso; omega

set_option maxRecDepth 100000 in
set_option maxHeartbeats 4000000 in
theorem t_X1_take_5_2 {nx : Nat} {h : Nat → Option PC} {ru : Nat} {la : Int} {dy : Nat → Int} {le : Nat → Int} {mo : Nat → Int} {ch : Nat → Int} {v : Int} (hr0 : h 118 = some (oO 1 [zI ((ru : Nat) : Int), zI la, zR 119, zR 120, zR 121, zR 122])) (hr1 : h 119 = some (oA 0 5 dy)) (hr2 : h 120 = some (oA 0 5 le)) (hr3 : h 121 = some (oA 0 5 mo)) (hr4 : h 122 = some (oA 0 5 ch)) (hru : ru < 5) : Cx 0 (0, 0) yX1_take cX1_take 3 none [zR 118, zI 2, zI v] nx h (Rn nx [(121, oA 0 5 (fup mo ru v))]) := by
  refine cx_of pnX1_take (Nat.le_of_ble_eq_true rfl) ?_
  intro K G hr hnm hR
  show Wp K 3 (Mx K h (Rn nx [(121, oA 0 5 (fup mo ru v))]) (0, 0)) (0, 0) 0 [(0, zR 118), (1, zI 2), (2, zI v)] [] (nx, h, [])
  refine wp_aload_n G 0 dX1_take_0 rfl ?_
  refine wp_get G 0 cOk1 fX1_7 dX1_take_1 hr0 rfl ?_
  refine wp_iconst G dX1_take_4 ?_
  refine wp_icmp_lt G dX1_take_5 (by omega) (by omega) (fun kq1 => ?_) (fun kq1 => ?_)
  · skip
    refine wp_iload_n G 1 dX1_take_9 rfl ?_
    refine wp_tableIn (off := 52) (tgt := 62) G dX1_take_10 (by decide) (by decide) (by decide) rfl (by decide) ?_
    refine wp_aload_n G 0 dX1_take_62 rfl ?_
    refine wp_get G 4 cOk1 fX1_23 dX1_take_63 hr0 rfl ?_
    refine wp_aload_n G 0 dX1_take_66 rfl ?_
    refine wp_get G 0 cOk1 fX1_7 dX1_take_67 hr0 rfl ?_
    refine wp_iload_n G 2 dX1_take_70 rfl ?_
    refine wp_iastE (j := ru) (hp2 := (nx, h, [(121, oA 0 5 (fup mo ru v))])) G dX1_take_71 hr3 rfl (by omega) (by decide) rfl ?_
    refine wp_goto G dX1_take_72 ?_
    exact wp_vreturn G hr dX1_take_95 ⟨rfl, rfl, by rfl⟩
  · skip
    exfalso; omega

set_option maxRecDepth 100000 in
set_option maxHeartbeats 4000000 in
theorem t_X1_take_5_3 {nx : Nat} {h : Nat → Option PC} {ru : Nat} {la : Int} {dy : Nat → Int} {le : Nat → Int} {mo : Nat → Int} {ch : Nat → Int} {v : Int} (hr0 : h 118 = some (oO 1 [zI ((ru : Nat) : Int), zI la, zR 119, zR 120, zR 121, zR 122])) (hr1 : h 119 = some (oA 0 5 dy)) (hr2 : h 120 = some (oA 0 5 le)) (hr3 : h 121 = some (oA 0 5 mo)) (hr4 : h 122 = some (oA 0 5 ch)) (hru : ru < 5) : Cx 0 (0, 0) yX1_take cX1_take 3 none [zR 118, zI 3, zI v] nx h (Rn nx [(122, oA 0 5 (fup ch ru v)), (118, oO 1 [zI (((ru : Nat) : Int) + 1), zI la, zR 119, zR 120, zR 121, zR 122])]) := by
  refine cx_of pnX1_take (Nat.le_of_ble_eq_true rfl) ?_
  intro K G hr hnm hR
  show Wp K 3 (Mx K h (Rn nx [(122, oA 0 5 (fup ch ru v)), (118, oO 1 [zI (((ru : Nat) : Int) + 1), zI la, zR 119, zR 120, zR 121, zR 122])]) (0, 0)) (0, 0) 0 [(0, zR 118), (1, zI 3), (2, zI v)] [] (nx, h, [])
  refine wp_aload_n G 0 dX1_take_0 rfl ?_
  refine wp_get G 0 cOk1 fX1_7 dX1_take_1 hr0 rfl ?_
  refine wp_iconst G dX1_take_4 ?_
  refine wp_icmp_lt G dX1_take_5 (by omega) (by omega) (fun kq1 => ?_) (fun kq1 => ?_)
  · skip
    refine wp_iload_n G 1 dX1_take_9 rfl ?_
    refine wp_tableOut (tgt := 75) G dX1_take_10 (by decide) (by decide) (by decide) ?_
    refine wp_aload_n G 0 dX1_take_75 rfl ?_
    refine wp_get G 5 cOk1 fX1_26 dX1_take_76 hr0 rfl ?_
    refine wp_aload_n G 0 dX1_take_79 rfl ?_
    refine wp_get G 0 cOk1 fX1_7 dX1_take_80 hr0 rfl ?_
    refine wp_iload_n G 2 dX1_take_83 rfl ?_
    refine wp_iastE (j := ru) (hp2 := (nx, h, [(122, oA 0 5 (fup ch ru v))])) G dX1_take_84 hr4 rfl (by omega) (by decide) rfl ?_
    refine wp_aload_n G 0 dX1_take_85 rfl ?_
    refine wp_dup G rfl dX1_take_86 ?_
    refine wp_get G 0 cOk1 fX1_7 dX1_take_87 hr0 rfl ?_
    refine wp_iconst G dX1_take_90 ?_
    refine wp_iadd G dX1_take_91 ?_
    refine wp_putE (hp2 := (nx, h, [(122, oA 0 5 (fup ch ru v)), (118, oO 1 [zI (((ru : Nat) : Int) + 1), zI la, zR 119, zR 120, zR 121, zR 122])])) G 0 cOk1 fX1_7 dX1_take_92 hr0 (Nat.le_of_ble_eq_true rfl) (fit_int _) (fun _ e => by cases e; rfl) rfl ?_
    exact wp_vreturn G hr dX1_take_95 ⟨rfl, rfl, by rfl⟩
  · skip
    exfalso; omega

theorem as_X8_read_5_4 {b118 : PC} {c118 : PC} {c119 : PC} {c120 : PC} {c121 : PC} {c122 : PC} : asets [(118, b118)] [(118, c118), (119, c119), (120, c120), (121, c121), (122, c122)] = [(118, c118), (122, c122), (121, c121), (120, c120), (119, c119)] := by
  simp [asets, aset]
set_option maxRecDepth 100000 in
set_option maxHeartbeats 4000000 in
theorem t_X8_read_5 {h : Nat → Option PC} {sc : Nat} {sg : Nat → Int} (h42 : h 42 = some (oO 7 [zI ((sc : Nat) : Int), zR 43])) (h43 : h 43 = some (oA 0 48 sg)) (hsc : sc ≤ 48) (hsg : ∀ i, i < sc → 33 ≤ sg i ∧ sg i ≤ 126) (hfl : fltZ sg sc = -6) : Cx 2 (5, 26) yX8_read cX8_read 5 (some (.object "QuakeLists$Forecast")) [zR 42] 118 h (fun rr nx' l' => rr = some (zR 118) ∧ nx' = 123 ∧ l' = [(118, oO 1 [zI ((tE sg sc / 4 : Nat) : Int), zI (rV sg sc), zR 119, zR 120, zR 121, zR 122]), (122, oA 0 5 (rA sg sc 3)), (121, oA 0 5 (rA sg sc 2)), (120, oA 0 5 (rA sg sc 1)), (119, oA 0 5 (rA sg sc 0))]) := by
  refine cx_of pnX8_read (Nat.le_of_ble_eq_true rfl) ?_
  intro K G hr hnm hR
  show Wp K 5 (Mx K h (fun rr nx' l' => rr = some (zR 118) ∧ nx' = 123 ∧ l' = [(118, oO 1 [zI ((tE sg sc / 4 : Nat) : Int), zI (rV sg sc), zR 119, zR 120, zR 121, zR 122]), (122, oA 0 5 (rA sg sc 3)), (121, oA 0 5 (rA sg sc 2)), (120, oA 0 5 (rA sg sc 1)), (119, oA 0 5 (rA sg sc 0))]) (5, 26)) (0, 0) 0 [(0, zR 42)] [] (118, h, [])
  refine wp_new (fs := [zI 0, zI 0, zN, zN, zN, zN]) (n := 6) (ci := 1) G cOk1 ⟨_, rfl, rfl, wt_at 725 (by decide +kernel) (by decide +kernel), wt_at 726 (by decide +kernel) (by decide +kernel), wt_at 103 (by decide +kernel) (by decide +kernel)⟩ dX8_read_0 (fun sz j hj => by rcases (show j = 0 ∨ j = 1 ∨ j = 2 ∨ j = 3 ∨ j = 4 ∨ j = 5 by omega) with rfl | rfl | rfl | rfl | rfl | rfl <;> rfl) (by rw [hR]; exact ⟨by decide, by decide⟩) ?_
  show Wp K 5 (Mx K h (fun rr nx' l' => rr = some (zR 118) ∧ nx' = 123 ∧ l' = [(118, oO 1 [zI ((tE sg sc / 4 : Nat) : Int), zI (rV sg sc), zR 119, zR 120, zR 121, zR 122]), (122, oA 0 5 (rA sg sc 3)), (121, oA 0 5 (rA sg sc 2)), (120, oA 0 5 (rA sg sc 1)), (119, oA 0 5 (rA sg sc 0))]) (5, 26)) (1, 6) 3 [(0, zR 42)] [zR 118] (119, h, [(118, oO 1 [zI 0, zI 0, zN, zN, zN, zN])])
  refine wp_dup G rfl dX8_read_3 ?_
  refine wp_callI (mm := (4, 20)) (b := 118) (as := []) (rest := [zR 118]) G mX1_init lX8_29 iX1_init rfl dX8_read_4 rfl rfl (Nat.le_of_ble_eq_true rfl) (rmx_ok hR (by decide) (by decide) (by decide) (by decide)) (t_X1_init_5  rfl) (fun rr nx' l' hq => ?_)
  obtain ⟨rfl, rfl, rfl⟩ := hq
  rw [as_X8_read_5_4]
  show Wp K 5 (Mx K h (fun rr nx' l' => rr = some (zR 118) ∧ nx' = 123 ∧ l' = [(118, oO 1 [zI ((tE sg sc / 4 : Nat) : Int), zI (rV sg sc), zR 119, zR 120, zR 121, zR 122]), (122, oA 0 5 (rA sg sc 3)), (121, oA 0 5 (rA sg sc 2)), (120, oA 0 5 (rA sg sc 1)), (119, oA 0 5 (rA sg sc 0))]) (5, 26)) (5, 26) 7 [(0, zR 42)] [zR 118] (123, h, [(118, oO 1 [zI 0, zI 0, zR 119, zR 120, zR 121, zR 122]), (122, oA 0 5 (fun _ => 0)), (121, oA 0 5 (fun _ => 0)), (120, oA 0 5 (fun _ => 0)), (119, oA 0 5 (fun _ => 0))])
  refine wp_astore_n (lv' := [(1, zR 118), (0, zR 42)]) G dX8_read_7 (by decide) rfl ?_
  refine wp_iconst G dX8_read_8 ?_
  refine wp_istore_n (lv' := [(2, zI 0), (1, zR 118), (0, zR 42)]) G dX8_read_9 (by decide) rfl ?_
  refine wp_iconst G dX8_read_10 ?_
  refine wp_istore_n (lv' := [(3, zI 0), (2, zI 0), (1, zR 118), (0, zR 42)]) G dX8_read_11 (by decide) rfl ?_
  refine wp_iconst G dX8_read_12 ?_
  refine wp_istore (lv' := [(4, zI 0), (3, zI 0), (2, zI 0), (1, zR 118), (0, zR 42)]) G dX8_read_13 (by decide) rfl ?_
  refine wp_lv [4, 3, 2, 1, 0] rfl ?_
  suffices lp15 : ∀ (fu : Nat) (k : Nat) (ru : Nat) (v2 : Int) (v3 : Int) (v4 : Int) (A119 : Nat → Int) (A120 : Nat → Int) (A121 : Nat → Int) (A122 : Nat → Int), sc - k < fu → (v2 = ((tE sg k % 4 : Nat) : Int)) → (v3 = rV sg k) → (v4 = ((k : Nat) : Int)) → (A119 = rA sg k 0) → (A120 = rA sg k 1) → (A121 = rA sg k 2) → (A122 = rA sg k 3) → (k ≤ sc) → (ru = tE sg k / 4) → Wp K 5 (Mx K h (fun rr nx' l' => rr = some (zR 118) ∧ nx' = 123 ∧ l' = [(118, oO 1 [zI ((tE sg sc / 4 : Nat) : Int), zI (rV sg sc), zR 119, zR 120, zR 121, zR 122]), (122, oA 0 5 (rA sg sc 3)), (121, oA 0 5 (rA sg sc 2)), (120, oA 0 5 (rA sg sc 1)), (119, oA 0 5 (rA sg sc 0))]) (5, 26)) (5, 26) 15 [(0, zR 42), (1, zR 118), (2, zI v2), (3, zI v3), (4, zI v4)] [] (123, h, [(118, oO 1 [zI ((ru : Nat) : Int), zI 0, zR 119, zR 120, zR 121, zR 122]), (122, oA 0 5 A122), (121, oA 0 5 A121), (120, oA 0 5 A120), (119, oA 0 5 A119)]) from lp15 _ 0 0 0 0 0 (fun _ => 0) (fun _ => 0) (fun _ => 0) (fun _ => 0) (Nat.lt_succ_self _) (by rfl) (by rfl) (by omega) (by rfl) (by rfl) (by rfl) (by rfl) (by omega) (by rw [tE])
  intro fu
  induction fu with
  | zero => intro k ru v2 v3 v4 A119 A120 A121 A122 hm; exact absurd hm (Nat.not_lt_zero _)
  | succ fu ih15 =>
    intro k ru v2 v3 v4 A119 A120 A121 A122 hm15 e2 e3 e4 eA119 eA120 eA121 eA122 hi0 eru
    subst e2
    subst e3
    subst e4
    subst eA119
    subst eA120
    subst eA121
    subst eA122
    refine wp_iload G 4 dX8_read_15 rfl ?_
    refine wp_aload_n G 0 dX8_read_17 rfl ?_
    refine wp_get G 0 cOk7 fX8_9 dX8_read_18 h42 rfl ?_
    refine wp_icmp_ge G dX8_read_21 (by omega) (by omega) (fun kq1 => ?_) (fun kq1 => ?_)
    · skip
      refine wp_aload_n G 1 dX8_read_76 rfl ?_
      refine wp_iload_n G 3 dX8_read_77 rfl ?_
      refine wp_putE (hp2 := (123, h, [(118, oO 1 [zI ((ru : Nat) : Int), zI (rV sg k), zR 119, zR 120, zR 121, zR 122]), (122, oA 0 5 (rA sg k 3)), (121, oA 0 5 (rA sg k 2)), (120, oA 0 5 (rA sg k 1)), (119, oA 0 5 (rA sg k 0))])) G 1 cOk1 fX8_34 dX8_read_78 rfl (Nat.le_of_ble_eq_true rfl) (fit_int _) (fun _ e => by cases e; rfl) rfl ?_
      refine wp_aload_n G 1 dX8_read_81 rfl ?_
      exact wp_areturn (r := some 118) G hr (Or.inl ⟨_, rfl⟩) dX8_read_82 (by have ek : k = sc := (by omega); subst ek; subst eru; exact ⟨rfl, rfl, rfl⟩)
    · skip
      refine wp_aload_n G 0 dX8_read_24 rfl ?_
      refine wp_get G 1 cOk7 fX8_15 dX8_read_25 h42 rfl ?_
      refine wp_iload G 4 dX8_read_28 rfl ?_
      refine wp_iald (j := k) G dX8_read_30 h43 rfl (by omega) (by decide) ?_
      have rrq1 := hsg k (by omega)
      refine wp_cSE (as := [zI (sg k)]) (rest := []) (hp2 := (123, h, [(118, oO 1 [zI ((ru : Nat) : Int), zI 0, zR 119, zR 120, zR 121, zR 122]), (122, oA 0 5 (rA sg k 3)), (121, oA 0 5 (rA sg k 2)), (120, oA 0 5 (rA sg k 1)), (119, oA 0 5 (rA sg k 0))])) G mX8_isDigit lX8_19 sX8_isDigit dX8_read_31 rfl rfl (Nat.le_of_ble_eq_true rfl) (rmx_ok hR (by decide) (by decide) (by decide) (by decide)) (t_X8_isDigit (nx := 123) (v := (sg k)) (by omega)) rfl ?_
      refine wp_ifeq_bt G dX8_read_34 (fun kq2 => ?_) (fun kq2 => ?_)
      · skip
        have ht4 : tE sg k % 4 = 0 ∨ tE sg k % 4 = 1 ∨ tE sg k % 4 = 2 ∨ tE sg k % 4 = 3 := by omega
        have hru5 := (txt_5 (i := k) hsc hfl).2.2 (by omega) (by assumption)
        have hru6 := (txt_5 (i := k) hsc hfl).1
        rcases ht4 with e4 | e4 | e4 | e4
        · rw [show ((tE sg k % 4 : Nat) : Int) = 0 by omega]
          refine wp_aload_n G 1 dX8_read_56 rfl ?_
          refine wp_iload_n G 2 dX8_read_57 rfl ?_
          refine wp_iload_n G 3 dX8_read_58 rfl ?_
          refine wp_cVN (b := 118) (ci := 1) (as := [zI 0, zI (rV sg k)]) (rest := []) (hp2 := (123, h, [(118, oO 1 [zI ((ru : Nat) : Int), zI 0, zR 119, zR 120, zR 121, zR 122]), (122, oA 0 5 (rA sg k 3)), (121, oA 0 5 (rA sg k 2)), (120, oA 0 5 (rA sg k 1)), (119, oA 0 5 (fup (rA sg k 0) ru (rV sg k)))])) G mX1_take lX8_30 iX1_take eX1_take ⟨_, rfl, rfl⟩ dX8_read_59 rfl rfl rfl (Nat.le_of_ble_eq_true rfl) (rmx_ok hR (by decide) (by decide) (by decide) (by decide)) (t_X1_take_5_0 (nx := 123) (v := (rV sg k)) (ru := ru) (la := 0) (dy := (rA sg k 0)) (le := (rA sg k 1)) (mo := (rA sg k 2)) (ch := (rA sg k 3)) rfl rfl rfl rfl rfl (by omega)) rfl ?_
          refine wp_iload_n G 2 dX8_read_62 rfl ?_
          refine wp_iconst G dX8_read_63 ?_
          refine wp_iadd G dX8_read_64 ?_
          refine wp_iconst G dX8_read_65 ?_
          refine wp_irem G (by omega) (by omega) (by omega) dX8_read_66 ?_
          refine wp_istore_n (lv' := [(2, zI (Int.tmod (0 + 1) 4)), (0, zR 42), (1, zR 118), (3, zI (rV sg k)), (4, zI ((k : Nat) : Int))]) G dX8_read_67 (by decide) rfl ?_
          refine wp_iconst G dX8_read_68 ?_
          refine wp_istore_n (lv' := [(3, zI 0), (2, zI (Int.tmod (0 + 1) 4)), (0, zR 42), (1, zR 118), (4, zI ((k : Nat) : Int))]) G dX8_read_69 (by decide) rfl ?_
          refine wp_iinc (lv' := [(4, zI (((k : Nat) : Int) + 1)), (3, zI 0), (2, zI (Int.tmod (0 + 1) 4)), (0, zR 42), (1, zR 118)]) G 4 dX8_read_70 rfl (by decide) rfl ?_
          refine wp_goto G dX8_read_73 ?_
          refine wp_lv [3, 4, 2, 1, 0] rfl ?_
          exact ih15 (k + 1) ru (Int.tmod (0 + 1) 4) 0 (((k : Nat) : Int) + 1) (fup (rA sg k 0) ru (rV sg k)) (rA sg k 1) (rA sg k 2) (rA sg k 3) (by omega) (by first | (rw [tE_y (by assumption)]; done) | (rw [tE_n (by assumption), Int.tmod_eq_emod_of_nonneg (by omega)]; omega)) (by first | (rw [rV_y (by assumption)]; done) | (rw [rV_n (by assumption)]; done)) (by omega) (by first | (rw [rA_y (by assumption)]; done) | (rw [ra_eq (by assumption) (by omega), ← eru]; done) | (rw [ra_ne (by assumption) (by omega)]; done)) (by first | (rw [rA_y (by assumption)]; done) | (rw [ra_eq (by assumption) (by omega), ← eru]; done) | (rw [ra_ne (by assumption) (by omega)]; done)) (by first | (rw [rA_y (by assumption)]; done) | (rw [ra_eq (by assumption) (by omega), ← eru]; done) | (rw [ra_ne (by assumption) (by omega)]; done)) (by first | (rw [rA_y (by assumption)]; done) | (rw [ra_eq (by assumption) (by omega), ← eru]; done) | (rw [ra_ne (by assumption) (by omega)]; done)) (by omega) (by first | (rw [tE_y (by assumption)]; exact eru) | (rw [tE_n (by assumption)]; omega))
        · rw [show ((tE sg k % 4 : Nat) : Int) = 1 by omega]
          refine wp_aload_n G 1 dX8_read_56 rfl ?_
          refine wp_iload_n G 2 dX8_read_57 rfl ?_
          refine wp_iload_n G 3 dX8_read_58 rfl ?_
          refine wp_cVN (b := 118) (ci := 1) (as := [zI 1, zI (rV sg k)]) (rest := []) (hp2 := (123, h, [(118, oO 1 [zI ((ru : Nat) : Int), zI 0, zR 119, zR 120, zR 121, zR 122]), (122, oA 0 5 (rA sg k 3)), (121, oA 0 5 (rA sg k 2)), (120, oA 0 5 (fup (rA sg k 1) ru (rV sg k))), (119, oA 0 5 (rA sg k 0))])) G mX1_take lX8_30 iX1_take eX1_take ⟨_, rfl, rfl⟩ dX8_read_59 rfl rfl rfl (Nat.le_of_ble_eq_true rfl) (rmx_ok hR (by decide) (by decide) (by decide) (by decide)) (t_X1_take_5_1 (nx := 123) (v := (rV sg k)) (ru := ru) (la := 0) (dy := (rA sg k 0)) (le := (rA sg k 1)) (mo := (rA sg k 2)) (ch := (rA sg k 3)) rfl rfl rfl rfl rfl (by omega)) rfl ?_
          refine wp_iload_n G 2 dX8_read_62 rfl ?_
          refine wp_iconst G dX8_read_63 ?_
          refine wp_iadd G dX8_read_64 ?_
          refine wp_iconst G dX8_read_65 ?_
          refine wp_irem G (by omega) (by omega) (by omega) dX8_read_66 ?_
          refine wp_istore_n (lv' := [(2, zI (Int.tmod (1 + 1) 4)), (0, zR 42), (1, zR 118), (3, zI (rV sg k)), (4, zI ((k : Nat) : Int))]) G dX8_read_67 (by decide) rfl ?_
          refine wp_iconst G dX8_read_68 ?_
          refine wp_istore_n (lv' := [(3, zI 0), (2, zI (Int.tmod (1 + 1) 4)), (0, zR 42), (1, zR 118), (4, zI ((k : Nat) : Int))]) G dX8_read_69 (by decide) rfl ?_
          refine wp_iinc (lv' := [(4, zI (((k : Nat) : Int) + 1)), (3, zI 0), (2, zI (Int.tmod (1 + 1) 4)), (0, zR 42), (1, zR 118)]) G 4 dX8_read_70 rfl (by decide) rfl ?_
          refine wp_goto G dX8_read_73 ?_
          refine wp_lv [3, 4, 2, 1, 0] rfl ?_
          exact ih15 (k + 1) ru (Int.tmod (1 + 1) 4) 0 (((k : Nat) : Int) + 1) (rA sg k 0) (fup (rA sg k 1) ru (rV sg k)) (rA sg k 2) (rA sg k 3) (by omega) (by first | (rw [tE_y (by assumption)]; done) | (rw [tE_n (by assumption), Int.tmod_eq_emod_of_nonneg (by omega)]; omega)) (by first | (rw [rV_y (by assumption)]; done) | (rw [rV_n (by assumption)]; done)) (by omega) (by first | (rw [rA_y (by assumption)]; done) | (rw [ra_eq (by assumption) (by omega), ← eru]; done) | (rw [ra_ne (by assumption) (by omega)]; done)) (by first | (rw [rA_y (by assumption)]; done) | (rw [ra_eq (by assumption) (by omega), ← eru]; done) | (rw [ra_ne (by assumption) (by omega)]; done)) (by first | (rw [rA_y (by assumption)]; done) | (rw [ra_eq (by assumption) (by omega), ← eru]; done) | (rw [ra_ne (by assumption) (by omega)]; done)) (by first | (rw [rA_y (by assumption)]; done) | (rw [ra_eq (by assumption) (by omega), ← eru]; done) | (rw [ra_ne (by assumption) (by omega)]; done)) (by omega) (by first | (rw [tE_y (by assumption)]; exact eru) | (rw [tE_n (by assumption)]; omega))
        · rw [show ((tE sg k % 4 : Nat) : Int) = 2 by omega]
          refine wp_aload_n G 1 dX8_read_56 rfl ?_
          refine wp_iload_n G 2 dX8_read_57 rfl ?_
          refine wp_iload_n G 3 dX8_read_58 rfl ?_
          refine wp_cVN (b := 118) (ci := 1) (as := [zI 2, zI (rV sg k)]) (rest := []) (hp2 := (123, h, [(118, oO 1 [zI ((ru : Nat) : Int), zI 0, zR 119, zR 120, zR 121, zR 122]), (122, oA 0 5 (rA sg k 3)), (121, oA 0 5 (fup (rA sg k 2) ru (rV sg k))), (120, oA 0 5 (rA sg k 1)), (119, oA 0 5 (rA sg k 0))])) G mX1_take lX8_30 iX1_take eX1_take ⟨_, rfl, rfl⟩ dX8_read_59 rfl rfl rfl (Nat.le_of_ble_eq_true rfl) (rmx_ok hR (by decide) (by decide) (by decide) (by decide)) (t_X1_take_5_2 (nx := 123) (v := (rV sg k)) (ru := ru) (la := 0) (dy := (rA sg k 0)) (le := (rA sg k 1)) (mo := (rA sg k 2)) (ch := (rA sg k 3)) rfl rfl rfl rfl rfl (by omega)) rfl ?_
          refine wp_iload_n G 2 dX8_read_62 rfl ?_
          refine wp_iconst G dX8_read_63 ?_
          refine wp_iadd G dX8_read_64 ?_
          refine wp_iconst G dX8_read_65 ?_
          refine wp_irem G (by omega) (by omega) (by omega) dX8_read_66 ?_
          refine wp_istore_n (lv' := [(2, zI (Int.tmod (2 + 1) 4)), (0, zR 42), (1, zR 118), (3, zI (rV sg k)), (4, zI ((k : Nat) : Int))]) G dX8_read_67 (by decide) rfl ?_
          refine wp_iconst G dX8_read_68 ?_
          refine wp_istore_n (lv' := [(3, zI 0), (2, zI (Int.tmod (2 + 1) 4)), (0, zR 42), (1, zR 118), (4, zI ((k : Nat) : Int))]) G dX8_read_69 (by decide) rfl ?_
          refine wp_iinc (lv' := [(4, zI (((k : Nat) : Int) + 1)), (3, zI 0), (2, zI (Int.tmod (2 + 1) 4)), (0, zR 42), (1, zR 118)]) G 4 dX8_read_70 rfl (by decide) rfl ?_
          refine wp_goto G dX8_read_73 ?_
          refine wp_lv [3, 4, 2, 1, 0] rfl ?_
          exact ih15 (k + 1) ru (Int.tmod (2 + 1) 4) 0 (((k : Nat) : Int) + 1) (rA sg k 0) (rA sg k 1) (fup (rA sg k 2) ru (rV sg k)) (rA sg k 3) (by omega) (by first | (rw [tE_y (by assumption)]; done) | (rw [tE_n (by assumption), Int.tmod_eq_emod_of_nonneg (by omega)]; omega)) (by first | (rw [rV_y (by assumption)]; done) | (rw [rV_n (by assumption)]; done)) (by omega) (by first | (rw [rA_y (by assumption)]; done) | (rw [ra_eq (by assumption) (by omega), ← eru]; done) | (rw [ra_ne (by assumption) (by omega)]; done)) (by first | (rw [rA_y (by assumption)]; done) | (rw [ra_eq (by assumption) (by omega), ← eru]; done) | (rw [ra_ne (by assumption) (by omega)]; done)) (by first | (rw [rA_y (by assumption)]; done) | (rw [ra_eq (by assumption) (by omega), ← eru]; done) | (rw [ra_ne (by assumption) (by omega)]; done)) (by first | (rw [rA_y (by assumption)]; done) | (rw [ra_eq (by assumption) (by omega), ← eru]; done) | (rw [ra_ne (by assumption) (by omega)]; done)) (by omega) (by first | (rw [tE_y (by assumption)]; exact eru) | (rw [tE_n (by assumption)]; omega))
        · rw [show ((tE sg k % 4 : Nat) : Int) = 3 by omega]
          refine wp_aload_n G 1 dX8_read_56 rfl ?_
          refine wp_iload_n G 2 dX8_read_57 rfl ?_
          refine wp_iload_n G 3 dX8_read_58 rfl ?_
          refine wp_cVN (b := 118) (ci := 1) (as := [zI 3, zI (rV sg k)]) (rest := []) (hp2 := (123, h, [(118, oO 1 [zI (((ru : Nat) : Int) + 1), zI 0, zR 119, zR 120, zR 121, zR 122]), (122, oA 0 5 (fup (rA sg k 3) ru (rV sg k))), (121, oA 0 5 (rA sg k 2)), (120, oA 0 5 (rA sg k 1)), (119, oA 0 5 (rA sg k 0))])) G mX1_take lX8_30 iX1_take eX1_take ⟨_, rfl, rfl⟩ dX8_read_59 rfl rfl rfl (Nat.le_of_ble_eq_true rfl) (rmx_ok hR (by decide) (by decide) (by decide) (by decide)) (t_X1_take_5_3 (nx := 123) (v := (rV sg k)) (ru := ru) (la := 0) (dy := (rA sg k 0)) (le := (rA sg k 1)) (mo := (rA sg k 2)) (ch := (rA sg k 3)) rfl rfl rfl rfl rfl (by omega)) rfl ?_
          refine wp_iload_n G 2 dX8_read_62 rfl ?_
          refine wp_iconst G dX8_read_63 ?_
          refine wp_iadd G dX8_read_64 ?_
          refine wp_iconst G dX8_read_65 ?_
          refine wp_irem G (by omega) (by omega) (by omega) dX8_read_66 ?_
          refine wp_istore_n (lv' := [(2, zI (Int.tmod (3 + 1) 4)), (0, zR 42), (1, zR 118), (3, zI (rV sg k)), (4, zI ((k : Nat) : Int))]) G dX8_read_67 (by decide) rfl ?_
          refine wp_iconst G dX8_read_68 ?_
          refine wp_istore_n (lv' := [(3, zI 0), (2, zI (Int.tmod (3 + 1) 4)), (0, zR 42), (1, zR 118), (4, zI ((k : Nat) : Int))]) G dX8_read_69 (by decide) rfl ?_
          refine wp_iinc (lv' := [(4, zI (((k : Nat) : Int) + 1)), (3, zI 0), (2, zI (Int.tmod (3 + 1) 4)), (0, zR 42), (1, zR 118)]) G 4 dX8_read_70 rfl (by decide) rfl ?_
          refine wp_goto G dX8_read_73 ?_
          refine wp_lv [3, 4, 2, 1, 0] rfl ?_
          exact ih15 (k + 1) (ru + 1) (Int.tmod (3 + 1) 4) 0 (((k : Nat) : Int) + 1) (rA sg k 0) (rA sg k 1) (rA sg k 2) (fup (rA sg k 3) ru (rV sg k)) (by omega) (by first | (rw [tE_y (by assumption)]; done) | (rw [tE_n (by assumption), Int.tmod_eq_emod_of_nonneg (by omega)]; omega)) (by first | (rw [rV_y (by assumption)]; done) | (rw [rV_n (by assumption)]; done)) (by omega) (by first | (rw [rA_y (by assumption)]; done) | (rw [ra_eq (by assumption) (by omega), ← eru]; done) | (rw [ra_ne (by assumption) (by omega)]; done)) (by first | (rw [rA_y (by assumption)]; done) | (rw [ra_eq (by assumption) (by omega), ← eru]; done) | (rw [ra_ne (by assumption) (by omega)]; done)) (by first | (rw [rA_y (by assumption)]; done) | (rw [ra_eq (by assumption) (by omega), ← eru]; done) | (rw [ra_ne (by assumption) (by omega)]; done)) (by first | (rw [rA_y (by assumption)]; done) | (rw [ra_eq (by assumption) (by omega), ← eru]; done) | (rw [ra_ne (by assumption) (by omega)]; done)) (by omega) (by first | (rw [tE_y (by assumption)]; exact eru) | (rw [tE_n (by assumption)]; omega))
      · skip
        refine wp_iload_n G 3 dX8_read_37 rfl ?_
        refine wp_bipush G dX8_read_38 (by decide) ?_
        refine wp_imul G dX8_read_40 ?_
        refine wp_aload_n G 0 dX8_read_41 rfl ?_
        refine wp_get G 1 cOk7 fX8_15 dX8_read_42 h42 rfl ?_
        refine wp_iload G 4 dX8_read_45 rfl ?_
        refine wp_iald (j := k) G dX8_read_47 h43 rfl (by omega) (by decide) ?_
        have rrq2 := hsg k (by omega)
        refine wp_iadd G dX8_read_48 ?_
        refine wp_bipush G dX8_read_49 (by decide) ?_
        refine wp_isub G dX8_read_51 ?_
        refine wp_istore_n (lv' := [(3, zI (((rV sg k * 10) + (sg k)) - 48)), (0, zR 42), (1, zR 118), (2, zI ((tE sg k % 4 : Nat) : Int)), (4, zI ((k : Nat) : Int))]) G dX8_read_52 (by decide) rfl ?_
        refine wp_goto G dX8_read_53 ?_
        refine wp_iinc (lv' := [(4, zI (((k : Nat) : Int) + 1)), (3, zI (((rV sg k * 10) + (sg k)) - 48)), (0, zR 42), (1, zR 118), (2, zI ((tE sg k % 4 : Nat) : Int))]) G 4 dX8_read_70 rfl (by decide) rfl ?_
        refine wp_goto G dX8_read_73 ?_
        refine wp_lv [2, 3, 4, 1, 0] rfl ?_
        exact ih15 (k + 1) ru ((tE sg k % 4 : Nat) : Int) (((rV sg k * 10) + (sg k)) - 48) (((k : Nat) : Int) + 1) (rA sg k 0) (rA sg k 1) (rA sg k 2) (rA sg k 3) (by omega) (by first | (rw [tE_y (by assumption)]; done) | (rw [tE_n (by assumption), Int.tmod_eq_emod_of_nonneg (by omega)]; omega)) (by first | (rw [rV_y (by assumption)]; done) | (rw [rV_n (by assumption)]; done)) (by omega) (by first | (rw [rA_y (by assumption)]; done) | (rw [ra_eq (by assumption) (by omega), ← eru]; done) | (rw [ra_ne (by assumption) (by omega)]; done)) (by first | (rw [rA_y (by assumption)]; done) | (rw [ra_eq (by assumption) (by omega), ← eru]; done) | (rw [ra_ne (by assumption) (by omega)]; done)) (by first | (rw [rA_y (by assumption)]; done) | (rw [ra_eq (by assumption) (by omega), ← eru]; done) | (rw [ra_ne (by assumption) (by omega)]; done)) (by first | (rw [rA_y (by assumption)]; done) | (rw [ra_eq (by assumption) (by omega), ← eru]; done) | (rw [ra_ne (by assumption) (by omega)]; done)) (by omega) (by first | (rw [tE_y (by assumption)]; exact eru) | (rw [tE_n (by assumption)]; omega))

theorem as_X9_forecast_5_39 {c118 : PC} {c122 : PC} {c121 : PC} {c120 : PC} {c119 : PC} : asets [] [(118, c118), (122, c122), (121, c121), (120, c120), (119, c119)] = [(119, c119), (120, c120), (121, c121), (122, c122), (118, c118)] := by
  simp [asets, aset]
set_option maxRecDepth 100000 in
set_option maxHeartbeats 4000000 in
theorem t_X9_forecast_5 {h : Nat → Option PC} {sc : Nat} {sg : Nat → Int} (h42 : h 42 = some (oO 7 [zI ((sc : Nat) : Int), zR 43])) (h43 : h 43 = some (oA 0 48 sg)) (hsc : sc ≤ 48) (hsg : ∀ i, i < sc → 33 ≤ sg i ∧ sg i ≤ 126) (h0 : h 0 = some (oO 8 [zR 1, zR 2, zR 11, zR 34, zR 36, zR 42, zR 44, zI ((5 : Nat) : Int), zR 45, zR 48])) (h44 : h 44 = some (oP 5 6 (fcR 5))) : Cx 3 (5, 26) yX9_forecast cX9_forecast 1 (some .int) [zR 0] 118 h (fun rr nx' l' => (fltZ sg sc ≠ -6 ∧ nx' = 118 ∧ rr = some (zI (-5)) ∧ l' = []) ∨ (fltZ sg sc = -6 ∧ nx' = 123 ∧ rr = some (zI 5) ∧ l' = [(119, oA 0 5 (rA sg sc 0)), (120, oA 0 5 (rA sg sc 1)), (121, oA 0 5 (rA sg sc 2)), (122, oA 0 5 (rA sg sc 3)), (118, oO 1 [zI ((tE sg sc / 4 : Nat) : Int), zI (rV sg sc), zR 119, zR 120, zR 121, zR 122]), (44, oP 5 6 (fup (fcR 5) 5 (some 118))), (42, oO 7 [zI 0, zR 43]), (0, oO 8 [zR 1, zR 2, zR 11, zR 34, zR 36, zR 42, zR 44, zI (((5 : Nat) : Int) + 1), zR 45, zR 48])])) := by
  refine cx_of pnX9_forecast (Nat.le_of_ble_eq_true rfl) ?_
  intro K G hr hnm hR
  have hflb := flt_b sg sc
  show Wp K 1 (Mx K h (fun rr nx' l' => (fltZ sg sc ≠ -6 ∧ nx' = 118 ∧ rr = some (zI (-5)) ∧ l' = []) ∨ (fltZ sg sc = -6 ∧ nx' = 123 ∧ rr = some (zI 5) ∧ l' = [(119, oA 0 5 (rA sg sc 0)), (120, oA 0 5 (rA sg sc 1)), (121, oA 0 5 (rA sg sc 2)), (122, oA 0 5 (rA sg sc 3)), (118, oO 1 [zI ((tE sg sc / 4 : Nat) : Int), zI (rV sg sc), zR 119, zR 120, zR 121, zR 122]), (44, oP 5 6 (fup (fcR 5) 5 (some 118))), (42, oO 7 [zI 0, zR 43]), (0, oO 8 [zR 1, zR 2, zR 11, zR 34, zR 36, zR 42, zR 44, zI (((5 : Nat) : Int) + 1), zR 45, zR 48])])) (5, 26)) (0, 0) 0 [(0, zR 0)] [] (118, h, [])
  refine wp_aload_n G 0 dX9_forecast_0 rfl ?_
  refine wp_get G 7 cOk8 fX9_54 dX9_forecast_1 h0 rfl ?_
  refine wp_bipush G dX9_forecast_4 (by decide) ?_
  refine wp_icmp_lt G dX9_forecast_6 (by omega) (by omega) (fun kq1 => ?_) (fun kq1 => ?_)
  · skip
    refine wp_aload_n G 0 dX9_forecast_12 rfl ?_
    refine wp_get G 5 cOk8 fX9_44 dX9_forecast_13 h0 rfl ?_
    refine wp_cVE (b := 42) (ci := 7) (as := []) (rest := []) (hp2 := (118, h, [])) G mX8_faultyPlace lX9_256 iX8_faultyPlace eX8_faultyPlace ⟨_, rfl, rfl⟩ dX9_forecast_16 h42 rfl rfl (Nat.le_of_ble_eq_true rfl) (rmx_ok hR (by decide) (by decide) (by decide) (by decide)) (t_X8_faultyPlace (nx := 118)  h42 h43 hsc hsg) rfl ?_
    refine wp_bipush G dX9_forecast_19 (by decide) ?_
    refine wp_icmp_eq G dX9_forecast_21 (by omega) (by omega) (fun kq2 => ?_) (fun kq2 => ?_)
    · skip
      refine wp_aload_n G 0 dX9_forecast_27 rfl ?_
      refine wp_get G 6 cOk8 fX9_50 dX9_forecast_28 h0 rfl ?_
      refine wp_aload_n G 0 dX9_forecast_31 rfl ?_
      refine wp_get G 7 cOk8 fX9_54 dX9_forecast_32 h0 rfl ?_
      refine wp_aload_n G 0 dX9_forecast_35 rfl ?_
      refine wp_get G 5 cOk8 fX9_44 dX9_forecast_36 h0 rfl ?_
      refine wp_callV (mm := (5, 26)) (b := 42) (ci := 7) (as := []) (rest := [zI ((5 : Nat) : Int), zR 44]) G mX8_read lX9_260 iX8_read eX8_read ⟨_, rfl, rfl⟩ dX9_forecast_39 h42 rfl rfl (Nat.le_of_ble_eq_true rfl) (rmx_ok hR (by decide) (by decide) (by decide) (by decide)) (t_X8_read_5  h42 h43 hsc hsg (by omega)) (fun rr nx' l' hq => ?_)
      obtain ⟨rfl, rfl, rfl⟩ := hq
      rw [as_X9_forecast_5_39]
      show Wp K 1 (Mx K h (fun rr nx' l' => (fltZ sg sc ≠ -6 ∧ nx' = 118 ∧ rr = some (zI (-5)) ∧ l' = []) ∨ (fltZ sg sc = -6 ∧ nx' = 123 ∧ rr = some (zI 5) ∧ l' = [(119, oA 0 5 (rA sg sc 0)), (120, oA 0 5 (rA sg sc 1)), (121, oA 0 5 (rA sg sc 2)), (122, oA 0 5 (rA sg sc 3)), (118, oO 1 [zI ((tE sg sc / 4 : Nat) : Int), zI (rV sg sc), zR 119, zR 120, zR 121, zR 122]), (44, oP 5 6 (fup (fcR 5) 5 (some 118))), (42, oO 7 [zI 0, zR 43]), (0, oO 8 [zR 1, zR 2, zR 11, zR 34, zR 36, zR 42, zR 44, zI (((5 : Nat) : Int) + 1), zR 45, zR 48])])) (5, 26)) (5, 26) 42 [(0, zR 0)] [zR 118, zI ((5 : Nat) : Int), zR 44] (123, h, [(119, oA 0 5 (rA sg sc 0)), (120, oA 0 5 (rA sg sc 1)), (121, oA 0 5 (rA sg sc 2)), (122, oA 0 5 (rA sg sc 3)), (118, oO 1 [zI ((tE sg sc / 4 : Nat) : Int), zI (rV sg sc), zR 119, zR 120, zR 121, zR 122])])
      refine wp_aast (j := 5) G dX9_forecast_42 h44 rfl rfl (by decide) (by decide) ?_
      show Wp K 1 (Mx K h (fun rr nx' l' => (fltZ sg sc ≠ -6 ∧ nx' = 118 ∧ rr = some (zI (-5)) ∧ l' = []) ∨ (fltZ sg sc = -6 ∧ nx' = 123 ∧ rr = some (zI 5) ∧ l' = [(119, oA 0 5 (rA sg sc 0)), (120, oA 0 5 (rA sg sc 1)), (121, oA 0 5 (rA sg sc 2)), (122, oA 0 5 (rA sg sc 3)), (118, oO 1 [zI ((tE sg sc / 4 : Nat) : Int), zI (rV sg sc), zR 119, zR 120, zR 121, zR 122]), (44, oP 5 6 (fup (fcR 5) 5 (some 118))), (42, oO 7 [zI 0, zR 43]), (0, oO 8 [zR 1, zR 2, zR 11, zR 34, zR 36, zR 42, zR 44, zI (((5 : Nat) : Int) + 1), zR 45, zR 48])])) (5, 26)) (5, 26) 43 [(0, zR 0)] [] (123, h, [(119, oA 0 5 (rA sg sc 0)), (120, oA 0 5 (rA sg sc 1)), (121, oA 0 5 (rA sg sc 2)), (122, oA 0 5 (rA sg sc 3)), (118, oO 1 [zI ((tE sg sc / 4 : Nat) : Int), zI (rV sg sc), zR 119, zR 120, zR 121, zR 122]), (44, oP 5 6 (fup (fcR 5) 5 (some 118)))])
      refine wp_aload_n G 0 dX9_forecast_43 rfl ?_
      refine wp_get G 5 cOk8 fX9_44 dX9_forecast_44 h0 rfl ?_
      refine wp_iconst G dX9_forecast_47 ?_
      refine wp_putE (hp2 := (123, h, [(119, oA 0 5 (rA sg sc 0)), (120, oA 0 5 (rA sg sc 1)), (121, oA 0 5 (rA sg sc 2)), (122, oA 0 5 (rA sg sc 3)), (118, oO 1 [zI ((tE sg sc / 4 : Nat) : Int), zI (rV sg sc), zR 119, zR 120, zR 121, zR 122]), (44, oP 5 6 (fup (fcR 5) 5 (some 118))), (42, oO 7 [zI 0, zR 43])])) G 0 cOk7 fX9_253 dX9_forecast_48 h42 (Nat.le_of_ble_eq_true rfl) (fit_int _) (fun _ e => by cases e; rfl) rfl ?_
      refine wp_aload_n G 0 dX9_forecast_51 rfl ?_
      refine wp_dup G rfl dX9_forecast_52 ?_
      refine wp_get G 7 cOk8 fX9_54 dX9_forecast_53 h0 rfl ?_
      refine wp_iconst G dX9_forecast_56 ?_
      refine wp_iadd G dX9_forecast_57 ?_
      refine wp_putE (hp2 := (123, h, [(119, oA 0 5 (rA sg sc 0)), (120, oA 0 5 (rA sg sc 1)), (121, oA 0 5 (rA sg sc 2)), (122, oA 0 5 (rA sg sc 3)), (118, oO 1 [zI ((tE sg sc / 4 : Nat) : Int), zI (rV sg sc), zR 119, zR 120, zR 121, zR 122]), (44, oP 5 6 (fup (fcR 5) 5 (some 118))), (42, oO 7 [zI 0, zR 43]), (0, oO 8 [zR 1, zR 2, zR 11, zR 34, zR 36, zR 42, zR 44, zI (((5 : Nat) : Int) + 1), zR 45, zR 48])])) G 7 cOk8 fX9_54 dX9_forecast_58 h0 (Nat.le_of_ble_eq_true rfl) (fit_int _) (fun _ e => by cases e; rfl) rfl ?_
      refine wp_aload_n G 0 dX9_forecast_61 rfl ?_
      refine wp_get G 7 cOk8 fX9_54 dX9_forecast_62 rfl rfl ?_
      refine wp_iconst G dX9_forecast_65 ?_
      refine wp_isub G dX9_forecast_66 ?_
      exact wp_ireturn G hr dX9_forecast_67 (by exact Or.inr ⟨by omega, rfl, rfl, rfl⟩)
    · skip
      refine wp_bipush G dX9_forecast_24 (by decide) ?_
      refine wp_widen (cs' := (5, 26)) (by decide) (by decide) ?_
      exact wp_ireturn G hr dX9_forecast_26 (by exact Or.inl ⟨by omega, rfl, rfl, rfl⟩)
  · skip
    exfalso; omega

set_option maxRecDepth 100000 in
set_option maxHeartbeats 4000000 in
theorem t_X9_forecast_6 {nx : Nat} {h : Nat → Option PC} {sc : Nat} {sg : Nat → Int} (h42 : h 42 = some (oO 7 [zI ((sc : Nat) : Int), zR 43])) (h43 : h 43 = some (oA 0 48 sg)) (hsc : sc ≤ 48) (hsg : ∀ i, i < sc → 33 ≤ sg i ∧ sg i ≤ 126) (h0 : h 0 = some (oO 8 [zR 1, zR 2, zR 11, zR 34, zR 36, zR 42, zR 44, zI ((6 : Nat) : Int), zR 45, zR 48])) : Cx 3 (5, 26) yX9_forecast cX9_forecast 1 (some .int) [zR 0] nx h (Rt (zI (-4)) nx []) := by
  refine cx_of pnX9_forecast (Nat.le_of_ble_eq_true rfl) ?_
  intro K G hr hnm hR
  show Wp K 1 (Mx K h (Rt (zI (-4)) nx []) (5, 26)) (0, 0) 0 [(0, zR 0)] [] (nx, h, [])
  refine wp_aload_n G 0 dX9_forecast_0 rfl ?_
  refine wp_get G 7 cOk8 fX9_54 dX9_forecast_1 h0 rfl ?_
  refine wp_bipush G dX9_forecast_4 (by decide) ?_
  refine wp_icmp_lt G dX9_forecast_6 (by omega) (by omega) (fun kq1 => ?_) (fun kq1 => ?_)
  · skip
    exfalso; omega
  · skip
    refine wp_bipush G dX9_forecast_9 (by decide) ?_
    refine wp_widen (cs' := (5, 26)) (by decide) (by decide) ?_
    exact wp_ireturn G hr dX9_forecast_11 ⟨by rfl, rfl, by rfl⟩

