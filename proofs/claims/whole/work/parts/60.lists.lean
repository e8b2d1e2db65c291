noncomputable def plc (n : Nat) (o : Nat → Nat) (j : Nat) : Int := srch (fun p => o p = j) (fun p => ((p : Nat) : Int)) n
theorem plc_at {n : Nat} {q : Nat → Nat → Int} {o : Nat → Nat} {p : Nat} (hO : okQ n q o) (hp : p < n) : plc n o (o p) = ((p : Nat) : Int) := by
  unfold plc
  rw [srch_at (k := p) (v := fun p => ((p : Nat) : Int)) (fun r hr e => ahd_ne (hO.2.2.2.1 r p hr hp) e) rfl (Int.natCast_nonneg _) n hp]
noncomputable def ansB (n : Nat) (q : Nat → Nat → Int) (o : Nat → Nat) (v w : Int) : Int := if ¬ (0 ≤ v ∧ v < ((n : Nat) : Int)) then -1 else if w = 0 then q 0 v.toNat else if w = 1 then q 1 v.toNat else if w = 2 then q 2 v.toNat else if w = 3 then q 3 v.toNat else if w = 4 then q 4 v.toNat else if w = 5 then q 5 v.toNat else if w = 6 then q 6 v.toNat else if w = 7 then plc n o v.toNat else -2

set_option maxRecDepth 100000 in
set_option maxHeartbeats 4000000 in
theorem t_X9_asNum2 {nx : Nat} {h : Nat → Option PC} {v : Int} (h01 : v = 0 ∨ v = 1) : Cx 0 (0, 0) yX9_asNumber cX9_asNumber 1 (some .int) [zI v] nx h (Rt (zI v) nx []) := by
  refine cx_of pnX9_asNumber (Nat.le_of_ble_eq_true rfl) ?_
  intro K G hr hnm hR
  show Wp K 1 (Mx K h (Rt (zI v) nx []) (0, 0)) (0, 0) 0 [(0, zI v)] [] (nx, h, [])
  refine wp_iload_n G 0 dX9_asNumber_0 rfl ?_
  refine wp_if_eq G dX9_asNumber_1 (by omega) (fun kq1 => ?_) (fun kq1 => ?_)
  · skip
    refine wp_iconst G dX9_asNumber_8 ?_
    exact wp_ireturn G hr dX9_asNumber_9 ⟨by congr 2; omega, rfl, by rfl⟩
  · skip
    refine wp_iconst G dX9_asNumber_4 ?_
    refine wp_goto G dX9_asNumber_5 ?_
    exact wp_ireturn G hr dX9_asNumber_9 ⟨by congr 2; omega, rfl, by rfl⟩

set_option maxRecDepth 100000 in
set_option maxHeartbeats 4000000 in
theorem t_X9_quake {nx : Nat} {h : Nat → Option PC} {n : Nat} {q : Nat → Nat → Int} {o : Nat → Nat} {fc : Nat} {a : Int} {d : Int} {x : Int} {y : Int} {g : Int} {t : Int} (hQ : isQ h n q o) (hO : okQ n q o) (h0 : h 0 = some (oO 8 [zR 1, zR 2, zR 11, zR 34, zR 36, zR 42, zR 44, zI ((fc : Nat) : Int), zR 45, zR 48])) (ri_a : r32 a) (ri_d : r32 d) (ri_x : r32 x) (ri_y : r32 y) (ri_g : r32 g) (ri_t : r32 t) : Cx 2 (0, 0) yX9_quake cX9_quake 7 (some .int) [zR 0, zI a, zI d, zI x, zI y, zI g, zI t] nx h (fun rr nx' l' => nx' = nx ∧ ((¬ ((0 ≤ a ∧ a ≤ 2) ∧ (0 ≤ x ∧ x ≤ 15) ∧ (0 ≤ y ∧ y ≤ 15)) ∧ rr = some (zI (-1)) ∧ l' = []) ∨ (((0 ≤ a ∧ a ≤ 2) ∧ (0 ≤ x ∧ x ≤ 15) ∧ (0 ≤ y ∧ y ≤ 15)) ∧ ¬ ((0 ≤ d ∧ d ≤ 3999) ∧ (0 ≤ g ∧ g ≤ 90) ∧ (d ≤ t ∧ t ≤ 3999)) ∧ rr = some (zI (-2)) ∧ l' = []) ∨ (((0 ≤ a ∧ a ≤ 2) ∧ (0 ≤ x ∧ x ≤ 15) ∧ (0 ≤ y ∧ y ≤ 15)) ∧ ((0 ≤ d ∧ d ≤ 3999) ∧ (0 ≤ g ∧ g ≤ 90) ∧ (d ≤ t ∧ t ≤ 3999)) ∧ n = 40 ∧ rr = some (zI (-4)) ∧ l' = []) ∨ (((0 ≤ a ∧ a ≤ 2) ∧ (0 ≤ x ∧ x ≤ 15) ∧ (0 ≤ y ∧ y ≤ 15)) ∧ ((0 ≤ d ∧ d ≤ 3999) ∧ (0 ≤ g ∧ g ≤ 90) ∧ (d ≤ t ∧ t ≤ 3999)) ∧ n < 40 ∧ rr = some (zI ((n : Nat) : Int)) ∧ l' = [(2, oO 5 [zI ((((n : Nat) : Int) + 1)), zR 3, zR 4, zR 5, zR 6, zR 7, zR 8, zR 9, zR 10]), (10, oA 0 40 (fun r => ((insO (fup (q 1) n d) o (fup (q 1) n d n) n r : Nat) : Int))), (9, oA 1 40 (fup (q 6) n 0)), (8, oA 0 40 (fup (q 5) n t)), (7, oA 0 40 (fup (q 4) n g)), (6, oA 0 40 (fup (q 3) n y)), (5, oA 0 40 (fup (q 2) n x)), (4, oA 0 40 (fup (q 1) n d)), (3, oA 0 40 (fup (q 0) n a))]))) := by
  refine cx_of pnX9_quake (Nat.le_of_ble_eq_true rfl) ?_
  intro K G hr hnm hR
  obtain ⟨h2, h3, h4, h5, h6, h7, h8, h9, h10⟩ := id hQ
  have hn40 := hO.1
  show Wp K 7 (Mx K h (fun rr nx' l' => nx' = nx ∧ ((¬ ((0 ≤ a ∧ a ≤ 2) ∧ (0 ≤ x ∧ x ≤ 15) ∧ (0 ≤ y ∧ y ≤ 15)) ∧ rr = some (zI (-1)) ∧ l' = []) ∨ (((0 ≤ a ∧ a ≤ 2) ∧ (0 ≤ x ∧ x ≤ 15) ∧ (0 ≤ y ∧ y ≤ 15)) ∧ ¬ ((0 ≤ d ∧ d ≤ 3999) ∧ (0 ≤ g ∧ g ≤ 90) ∧ (d ≤ t ∧ t ≤ 3999)) ∧ rr = some (zI (-2)) ∧ l' = []) ∨ (((0 ≤ a ∧ a ≤ 2) ∧ (0 ≤ x ∧ x ≤ 15) ∧ (0 ≤ y ∧ y ≤ 15)) ∧ ((0 ≤ d ∧ d ≤ 3999) ∧ (0 ≤ g ∧ g ≤ 90) ∧ (d ≤ t ∧ t ≤ 3999)) ∧ n = 40 ∧ rr = some (zI (-4)) ∧ l' = []) ∨ (((0 ≤ a ∧ a ≤ 2) ∧ (0 ≤ x ∧ x ≤ 15) ∧ (0 ≤ y ∧ y ≤ 15)) ∧ ((0 ≤ d ∧ d ≤ 3999) ∧ (0 ≤ g ∧ g ≤ 90) ∧ (d ≤ t ∧ t ≤ 3999)) ∧ n < 40 ∧ rr = some (zI ((n : Nat) : Int)) ∧ l' = [(2, oO 5 [zI ((((n : Nat) : Int) + 1)), zR 3, zR 4, zR 5, zR 6, zR 7, zR 8, zR 9, zR 10]), (10, oA 0 40 (fun r => ((insO (fup (q 1) n d) o (fup (q 1) n d n) n r : Nat) : Int))), (9, oA 1 40 (fup (q 6) n 0)), (8, oA 0 40 (fup (q 5) n t)), (7, oA 0 40 (fup (q 4) n g)), (6, oA 0 40 (fup (q 3) n y)), (5, oA 0 40 (fup (q 2) n x)), (4, oA 0 40 (fup (q 1) n d)), (3, oA 0 40 (fup (q 0) n a))]))) (0, 0)) (0, 0) 0 [(0, zR 0), (1, zI a), (2, zI d), (3, zI x), (4, zI y), (5, zI g), (6, zI t)] [] (nx, h, [])
  refine wp_iload_n G 1 dX9_quake_0 rfl ?_
  refine wp_cSE (as := [zI a]) (rest := []) (hp2 := (nx, h, [])) G mX9_isList lX9_72 sX9_isList dX9_quake_1 rfl rfl (Nat.le_of_ble_eq_true rfl) (rmx_ok hR (by decide) (by decide) (by decide) (by decide)) (t_X9_isList (nx := nx) (v := a) (by omega)) rfl ?_
  refine wp_ifeq_bt G dX9_quake_4 (fun kq1 => ?_) (fun kq1 => ?_)
  · skip
    refine wp_iconst G dX9_quake_16 ?_
    exact wp_ireturn G hr dX9_quake_17 (by exact ⟨rfl, Or.inl (⟨by omega, rfl, rfl⟩)⟩)
  · skip
    refine wp_iload_n G 3 dX9_quake_7 rfl ?_
    refine wp_iload G 4 dX9_quake_8 rfl ?_
    refine wp_cSE (as := [zI x, zI y]) (rest := []) (hp2 := (nx, h, [])) G mX9_isCell lX9_76 sX9_isCell dX9_quake_10 rfl rfl (Nat.le_of_ble_eq_true rfl) (rmx_ok hR (by decide) (by decide) (by decide) (by decide)) (t_X9_isCell (nx := nx) (v := x) (w := y) (by omega) (by omega)) rfl ?_
    refine wp_ifne_bt G dX9_quake_13 (fun kq2 => ?_) (fun kq2 => ?_)
    · skip
      refine wp_iload_n G 2 dX9_quake_18 rfl ?_
      refine wp_cSE (as := [zI d]) (rest := []) (hp2 := (nx, h, [])) G mX9_isDay lX9_80 sX9_isDay dX9_quake_19 rfl rfl (Nat.le_of_ble_eq_true rfl) (rmx_ok hR (by decide) (by decide) (by decide) (by decide)) (t_X9_isDay (nx := nx) (v := d) (by omega)) rfl ?_
      refine wp_ifeq_bt G dX9_quake_22 (fun kq3 => ?_) (fun kq3 => ?_)
      · skip
        refine wp_bipush G dX9_quake_47 (by decide) ?_
        exact wp_ireturn G hr dX9_quake_49 (by exact ⟨rfl, Or.inr (Or.inl (⟨by omega, by omega, rfl, rfl⟩))⟩)
      · skip
        refine wp_iload G 5 dX9_quake_25 rfl ?_
        refine wp_cSE (as := [zI g]) (rest := []) (hp2 := (nx, h, [])) G mX9_isGreatness lX9_83 sX9_isGreatness dX9_quake_27 rfl rfl (Nat.le_of_ble_eq_true rfl) (rmx_ok hR (by decide) (by decide) (by decide) (by decide)) (t_X9_isGreatness (nx := nx) (v := g) (by omega)) rfl ?_
        refine wp_ifeq_bt G dX9_quake_30 (fun kq4 => ?_) (fun kq4 => ?_)
        · skip
          refine wp_bipush G dX9_quake_47 (by decide) ?_
          exact wp_ireturn G hr dX9_quake_49 (by exact ⟨rfl, Or.inr (Or.inl (⟨by omega, by omega, rfl, rfl⟩))⟩)
        · skip
          refine wp_iload G 6 dX9_quake_33 rfl ?_
          refine wp_cSE (as := [zI t]) (rest := []) (hp2 := (nx, h, [])) G mX9_isDay lX9_80 sX9_isDay dX9_quake_35 rfl rfl (Nat.le_of_ble_eq_true rfl) (rmx_ok hR (by decide) (by decide) (by decide) (by decide)) (t_X9_isDay (nx := nx) (v := t) (by omega)) rfl ?_
          refine wp_ifeq_bt G dX9_quake_38 (fun kq5 => ?_) (fun kq5 => ?_)
          · skip
            refine wp_bipush G dX9_quake_47 (by decide) ?_
            exact wp_ireturn G hr dX9_quake_49 (by exact ⟨rfl, Or.inr (Or.inl (⟨by omega, by omega, rfl, rfl⟩))⟩)
          · skip
            refine wp_iload G 6 dX9_quake_41 rfl ?_
            refine wp_iload_n G 2 dX9_quake_43 rfl ?_
            refine wp_icmp_ge G dX9_quake_44 (by omega) (by omega) (fun kq6 => ?_) (fun kq6 => ?_)
            · skip
              refine wp_aload_n G 0 dX9_quake_50 rfl ?_
              refine wp_get G 1 cOk8 fX9_16 dX9_quake_51 h0 rfl ?_
              refine wp_cVE (b := 2) (ci := 5) (as := []) (rest := []) (hp2 := (nx, h, [])) G mX6_isFull lX9_86 iX6_isFull eX6_isFull ⟨_, rfl, rfl⟩ dX9_quake_54 h2 rfl rfl (Nat.le_of_ble_eq_true rfl) (rmx_ok hR (by decide) (by decide) (by decide) (by decide)) (t_X6_isFull (nx := nx)  hQ hO) rfl ?_
              refine wp_ifeq_bt G dX9_quake_57 (fun kq7 => ?_) (fun kq7 => ?_)
              · skip
                refine wp_aload_n G 0 dX9_quake_63 rfl ?_
                refine wp_get G 1 cOk8 fX9_16 dX9_quake_64 h0 rfl ?_
                refine wp_iload_n G 1 dX9_quake_67 rfl ?_
                refine wp_iload_n G 2 dX9_quake_68 rfl ?_
                refine wp_iload_n G 3 dX9_quake_69 rfl ?_
                refine wp_iload G 4 dX9_quake_70 rfl ?_
                refine wp_iload G 5 dX9_quake_72 rfl ?_
                refine wp_iload G 6 dX9_quake_74 rfl ?_
                refine wp_cVE (b := 2) (ci := 5) (as := [zI a, zI d, zI x, zI y, zI g, zI t]) (rest := []) (hp2 := (nx, h, [(2, oO 5 [zI ((((n : Nat) : Int) + 1)), zR 3, zR 4, zR 5, zR 6, zR 7, zR 8, zR 9, zR 10]), (10, oA 0 40 (fun r => ((insO (fup (q 1) n d) o (fup (q 1) n d n) n r : Nat) : Int))), (9, oA 1 40 (fup (q 6) n 0)), (8, oA 0 40 (fup (q 5) n t)), (7, oA 0 40 (fup (q 4) n g)), (6, oA 0 40 (fup (q 3) n y)), (5, oA 0 40 (fup (q 2) n x)), (4, oA 0 40 (fup (q 1) n d)), (3, oA 0 40 (fup (q 0) n a))])) G mX6_add lX9_90 iX6_add eX6_add ⟨_, rfl, rfl⟩ dX9_quake_76 h2 rfl rfl (Nat.le_of_ble_eq_true rfl) (rmx_ok hR (by decide) (by decide) (by decide) (by decide)) (t_X6_add (nx := nx) (a := a) (d := d) (x := x) (y := y) (g := g) (t := t) hQ hO (by omega) ri_d) rfl ?_
                exact wp_ireturn G hr dX9_quake_79 (by exact ⟨rfl, Or.inr (Or.inr (Or.inr (⟨by omega, by omega, by omega, rfl, rfl⟩)))⟩)
              · skip
                refine wp_bipush G dX9_quake_60 (by decide) ?_
                exact wp_ireturn G hr dX9_quake_62 (by exact ⟨rfl, Or.inr (Or.inr (Or.inl (⟨by omega, by omega, by omega, rfl, rfl⟩)))⟩)
            · skip
              refine wp_bipush G dX9_quake_47 (by decide) ?_
              exact wp_ireturn G hr dX9_quake_49 (by exact ⟨rfl, Or.inr (Or.inl (⟨by omega, by omega, rfl, rfl⟩))⟩)
    · skip
      refine wp_iconst G dX9_quake_16 ?_
      exact wp_ireturn G hr dX9_quake_17 (by exact ⟨rfl, Or.inl (⟨by omega, rfl, rfl⟩)⟩)

set_option maxRecDepth 100000 in
set_option maxHeartbeats 4000000 in
theorem t_X10_quake {nx : Nat} {h : Nat → Option PC} {n : Nat} {q : Nat → Nat → Int} {o : Nat → Nat} {fc : Nat} {hn : Nat} {ln : Nat} {ma : Int} {mb : Int} {st : Nat → Int} {a : Int} {d : Int} {x : Int} {y : Int} {g : Int} {t : Int} (hQ : isM h n q o fc hn ln ma mb st) (hO : okQ n q o) (hN : okN st) (ri_a : r32 a) (ri_d : r32 d) (ri_x : r32 x) (ri_y : r32 y) (ri_g : r32 g) (ri_t : r32 t) : Cx 2 (0, 0) yX10_quake cX10_quake 8 (some .int) [zR 64, zI a, zI d, zI x, zI y, zI g, zI t] nx h (fun rr nx' l' => nx' = nx ∧ ((¬ ((0 ≤ a ∧ a ≤ 2) ∧ (0 ≤ x ∧ x ≤ 15) ∧ (0 ≤ y ∧ y ≤ 15)) ∧ rr = some (zI (-1)) ∧ l' = []) ∨ (((0 ≤ a ∧ a ≤ 2) ∧ (0 ≤ x ∧ x ≤ 15) ∧ (0 ≤ y ∧ y ≤ 15)) ∧ ¬ ((0 ≤ d ∧ d ≤ 3999) ∧ (0 ≤ g ∧ g ≤ 90) ∧ (d ≤ t ∧ t ≤ 3999)) ∧ rr = some (zI (-2)) ∧ l' = []) ∨ (((0 ≤ a ∧ a ≤ 2) ∧ (0 ≤ x ∧ x ≤ 15) ∧ (0 ≤ y ∧ y ≤ 15)) ∧ ((0 ≤ d ∧ d ≤ 3999) ∧ (0 ≤ g ∧ g ≤ 90) ∧ (d ≤ t ∧ t ≤ 3999)) ∧ n = 40 ∧ rr = some (zI (-4)) ∧ l' = []) ∨ (((0 ≤ a ∧ a ≤ 2) ∧ (0 ≤ x ∧ x ≤ 15) ∧ (0 ≤ y ∧ y ≤ 15)) ∧ ((0 ≤ d ∧ d ≤ 3999) ∧ (0 ≤ g ∧ g ≤ 90) ∧ (d ≤ t ∧ t ≤ 3999)) ∧ n < 40 ∧ rr = some (zI ((n : Nat) : Int)) ∧ l' = [(65, oA 0 40 (fup (q 0) n a)), (66, oA 0 40 (fup (q 1) n d)), (67, oA 0 40 (fup (q 2) n x)), (68, oA 0 40 (fup (q 3) n y)), (69, oA 0 40 (fup (q 4) n g)), (70, oA 0 40 (fup (q 5) n t)), (73, oA 0 40 (fun r => ((insO (fup (q 1) n d) o (fup (q 1) n d n) n r : Nat) : Int))), (64, oO 9 [zR 65, zR 66, zR 67, zR 68, zR 69, zR 70, zR 71, zI (((n : Nat) : Int) + 1), zR 72, zR 73, zR 74, zR 75, zI ma, zI mb, zR 76, zR 77, zR 78, zR 79, zR 80, zR 81, zI ((fc : Nat) : Int), zR 82, zR 83, zR 84, zR 85, zR 86, zR 87, zI ((hn : Nat) : Int), zR 88, zR 89, zR 90, zR 91, zR 92, zI ((ln : Nat) : Int)])]))) := by
  refine cx_of pnX10_quake (Nat.le_of_ble_eq_true rfl) ?_
  intro K G hr hnm hR
  obtain ⟨h64, h65, h66, h67, h68, h69, h70, h71, h72, h73⟩ := id hQ
  have hn40 := hO.1
  obtain ⟨hN0, hN1, hN2, hN3, hN4⟩ := id hN
  have edd : fup (q 1) n d n = d := fup_self _ _ _
  show Wp K 8 (Mx K h (fun rr nx' l' => nx' = nx ∧ ((¬ ((0 ≤ a ∧ a ≤ 2) ∧ (0 ≤ x ∧ x ≤ 15) ∧ (0 ≤ y ∧ y ≤ 15)) ∧ rr = some (zI (-1)) ∧ l' = []) ∨ (((0 ≤ a ∧ a ≤ 2) ∧ (0 ≤ x ∧ x ≤ 15) ∧ (0 ≤ y ∧ y ≤ 15)) ∧ ¬ ((0 ≤ d ∧ d ≤ 3999) ∧ (0 ≤ g ∧ g ≤ 90) ∧ (d ≤ t ∧ t ≤ 3999)) ∧ rr = some (zI (-2)) ∧ l' = []) ∨ (((0 ≤ a ∧ a ≤ 2) ∧ (0 ≤ x ∧ x ≤ 15) ∧ (0 ≤ y ∧ y ≤ 15)) ∧ ((0 ≤ d ∧ d ≤ 3999) ∧ (0 ≤ g ∧ g ≤ 90) ∧ (d ≤ t ∧ t ≤ 3999)) ∧ n = 40 ∧ rr = some (zI (-4)) ∧ l' = []) ∨ (((0 ≤ a ∧ a ≤ 2) ∧ (0 ≤ x ∧ x ≤ 15) ∧ (0 ≤ y ∧ y ≤ 15)) ∧ ((0 ≤ d ∧ d ≤ 3999) ∧ (0 ≤ g ∧ g ≤ 90) ∧ (d ≤ t ∧ t ≤ 3999)) ∧ n < 40 ∧ rr = some (zI ((n : Nat) : Int)) ∧ l' = [(65, oA 0 40 (fup (q 0) n a)), (66, oA 0 40 (fup (q 1) n d)), (67, oA 0 40 (fup (q 2) n x)), (68, oA 0 40 (fup (q 3) n y)), (69, oA 0 40 (fup (q 4) n g)), (70, oA 0 40 (fup (q 5) n t)), (73, oA 0 40 (fun r => ((insO (fup (q 1) n d) o (fup (q 1) n d n) n r : Nat) : Int))), (64, oO 9 [zR 65, zR 66, zR 67, zR 68, zR 69, zR 70, zR 71, zI (((n : Nat) : Int) + 1), zR 72, zR 73, zR 74, zR 75, zI ma, zI mb, zR 76, zR 77, zR 78, zR 79, zR 80, zR 81, zI ((fc : Nat) : Int), zR 82, zR 83, zR 84, zR 85, zR 86, zR 87, zI ((hn : Nat) : Int), zR 88, zR 89, zR 90, zR 91, zR 92, zI ((ln : Nat) : Int)])]))) (0, 0)) (0, 0) 0 [(0, zR 64), (1, zI a), (2, zI d), (3, zI x), (4, zI y), (5, zI g), (6, zI t)] [] (nx, h, [])
  refine wp_iload_n G 1 dX10_quake_0 rfl ?_
  refine wp_cSE (as := [zI a]) (rest := []) (hp2 := (nx, h, [])) G mX10_isList lX10_112 sX10_isList dX10_quake_1 rfl rfl (Nat.le_of_ble_eq_true rfl) (rmx_ok hR (by decide) (by decide) (by decide) (by decide)) (t_X10_isList (nx := nx) (v := a) (by omega)) rfl ?_
  refine wp_ifeq_bt G dX10_quake_4 (fun kq1 => ?_) (fun kq1 => ?_)
  · skip
    refine wp_iconst G dX10_quake_16 ?_
    exact wp_ireturn G hr dX10_quake_17 (by exact ⟨rfl, Or.inl (⟨by omega, rfl, rfl⟩)⟩)
  · skip
    refine wp_iload_n G 3 dX10_quake_7 rfl ?_
    refine wp_iload G 4 dX10_quake_8 rfl ?_
    refine wp_cSE (as := [zI x, zI y]) (rest := []) (hp2 := (nx, h, [])) G mX10_isCell lX10_116 sX10_isCell dX10_quake_10 rfl rfl (Nat.le_of_ble_eq_true rfl) (rmx_ok hR (by decide) (by decide) (by decide) (by decide)) (t_X10_isCell (nx := nx) (v := x) (w := y) (by omega) (by omega)) rfl ?_
    refine wp_ifne_bt G dX10_quake_13 (fun kq2 => ?_) (fun kq2 => ?_)
    · skip
      refine wp_iload_n G 2 dX10_quake_18 rfl ?_
      refine wp_cSE (as := [zI d]) (rest := []) (hp2 := (nx, h, [])) G mX10_isDay lX10_120 sX10_isDay dX10_quake_19 rfl rfl (Nat.le_of_ble_eq_true rfl) (rmx_ok hR (by decide) (by decide) (by decide) (by decide)) (t_X10_isDay (nx := nx) (v := d) (by omega)) rfl ?_
      refine wp_ifeq_bt G dX10_quake_22 (fun kq3 => ?_) (fun kq3 => ?_)
      · skip
        refine wp_bipush G dX10_quake_47 (by decide) ?_
        exact wp_ireturn G hr dX10_quake_49 (by exact ⟨rfl, Or.inr (Or.inl (⟨by omega, by omega, rfl, rfl⟩))⟩)
      · skip
        refine wp_iload G 5 dX10_quake_25 rfl ?_
        refine wp_cSE (as := [zI g]) (rest := []) (hp2 := (nx, h, [])) G mX10_isGreat lX10_123 sX10_isGreat dX10_quake_27 rfl rfl (Nat.le_of_ble_eq_true rfl) (rmx_ok hR (by decide) (by decide) (by decide) (by decide)) (t_X10_isGreat (nx := nx) (v := g) (by omega)) rfl ?_
        refine wp_ifeq_bt G dX10_quake_30 (fun kq4 => ?_) (fun kq4 => ?_)
        · skip
          refine wp_bipush G dX10_quake_47 (by decide) ?_
          exact wp_ireturn G hr dX10_quake_49 (by exact ⟨rfl, Or.inr (Or.inl (⟨by omega, by omega, rfl, rfl⟩))⟩)
        · skip
          refine wp_iload G 6 dX10_quake_33 rfl ?_
          refine wp_i2l G (by omega) dX10_quake_35 ?_
          refine wp_iload_n G 2 dX10_quake_36 rfl ?_
          refine wp_i2l G (by omega) dX10_quake_37 ?_
          refine wp_ldc2 (z := 3999) G kX10_106 dX10_quake_38 ?_
          refine wp_cSE (as := [zJ t, zJ d, zJ 3999]) (rest := []) (hp2 := (nx, h, [])) G mX10_in lX10_100 sX10_in dX10_quake_41 rfl rfl (Nat.le_of_ble_eq_true rfl) (rmx_ok hR (by decide) (by decide) (by decide) (by decide)) (t_X10_in (nx := nx) (v := t) (lo := d) (hi := 3999) (by omega) (by omega) (by omega)) rfl ?_
          refine wp_ifne_bt G dX10_quake_44 (fun kq5 => ?_) (fun kq5 => ?_)
          · skip
            refine wp_aload_n G 0 dX10_quake_50 rfl ?_
            refine wp_get G 7 cOk9 fX10_96 dX10_quake_51 h64 rfl ?_
            refine wp_bipush G dX10_quake_54 (by decide) ?_
            refine wp_icmp_ne G dX10_quake_56 (by omega) (by omega) (fun kq6 => ?_) (fun kq6 => ?_)
            · skip
              refine wp_aload_n G 0 dX10_quake_62 rfl ?_
              refine wp_get G 0 cOk9 fX10_7 dX10_quake_63 h64 rfl ?_
              refine wp_aload_n G 0 dX10_quake_66 rfl ?_
              refine wp_get G 7 cOk9 fX10_96 dX10_quake_67 h64 rfl ?_
              refine wp_iload_n G 1 dX10_quake_70 rfl ?_
              refine wp_iastE (j := n) (hp2 := (nx, h, [(65, oA 0 40 (fup (q 0) n a))])) G dX10_quake_71 h65 rfl (by omega) (by decide) rfl ?_
              refine wp_aload_n G 0 dX10_quake_72 rfl ?_
              refine wp_get G 1 cOk9 fX10_13 dX10_quake_73 h64 rfl ?_
              refine wp_aload_n G 0 dX10_quake_76 rfl ?_
              refine wp_get G 7 cOk9 fX10_96 dX10_quake_77 h64 rfl ?_
              refine wp_iload_n G 2 dX10_quake_80 rfl ?_
              refine wp_iastE (j := n) (hp2 := (nx, h, [(65, oA 0 40 (fup (q 0) n a)), (66, oA 0 40 (fup (q 1) n d))])) G dX10_quake_81 h66 rfl (by omega) (by decide) rfl ?_
              refine wp_aload_n G 0 dX10_quake_82 rfl ?_
              refine wp_get G 2 cOk9 fX10_16 dX10_quake_83 h64 rfl ?_
              refine wp_aload_n G 0 dX10_quake_86 rfl ?_
              refine wp_get G 7 cOk9 fX10_96 dX10_quake_87 h64 rfl ?_
              refine wp_iload_n G 3 dX10_quake_90 rfl ?_
              refine wp_iastE (j := n) (hp2 := (nx, h, [(65, oA 0 40 (fup (q 0) n a)), (66, oA 0 40 (fup (q 1) n d)), (67, oA 0 40 (fup (q 2) n x))])) G dX10_quake_91 h67 rfl (by omega) (by decide) rfl ?_
              refine wp_aload_n G 0 dX10_quake_92 rfl ?_
              refine wp_get G 3 cOk9 fX10_19 dX10_quake_93 h64 rfl ?_
              refine wp_aload_n G 0 dX10_quake_96 rfl ?_
              refine wp_get G 7 cOk9 fX10_96 dX10_quake_97 h64 rfl ?_
              refine wp_iload G 4 dX10_quake_100 rfl ?_
              refine wp_iastE (j := n) (hp2 := (nx, h, [(65, oA 0 40 (fup (q 0) n a)), (66, oA 0 40 (fup (q 1) n d)), (67, oA 0 40 (fup (q 2) n x)), (68, oA 0 40 (fup (q 3) n y))])) G dX10_quake_102 h68 rfl (by omega) (by decide) rfl ?_
              refine wp_aload_n G 0 dX10_quake_103 rfl ?_
              refine wp_get G 4 cOk9 fX10_22 dX10_quake_104 h64 rfl ?_
              refine wp_aload_n G 0 dX10_quake_107 rfl ?_
              refine wp_get G 7 cOk9 fX10_96 dX10_quake_108 h64 rfl ?_
              refine wp_iload G 5 dX10_quake_111 rfl ?_
              refine wp_iastE (j := n) (hp2 := (nx, h, [(65, oA 0 40 (fup (q 0) n a)), (66, oA 0 40 (fup (q 1) n d)), (67, oA 0 40 (fup (q 2) n x)), (68, oA 0 40 (fup (q 3) n y)), (69, oA 0 40 (fup (q 4) n g))])) G dX10_quake_113 h69 rfl (by omega) (by decide) rfl ?_
              refine wp_aload_n G 0 dX10_quake_114 rfl ?_
              refine wp_get G 5 cOk9 fX10_25 dX10_quake_115 h64 rfl ?_
              refine wp_aload_n G 0 dX10_quake_118 rfl ?_
              refine wp_get G 7 cOk9 fX10_96 dX10_quake_119 h64 rfl ?_
              refine wp_iload G 6 dX10_quake_122 rfl ?_
              refine wp_iastE (j := n) (hp2 := (nx, h, [(65, oA 0 40 (fup (q 0) n a)), (66, oA 0 40 (fup (q 1) n d)), (67, oA 0 40 (fup (q 2) n x)), (68, oA 0 40 (fup (q 3) n y)), (69, oA 0 40 (fup (q 4) n g)), (70, oA 0 40 (fup (q 5) n t))])) G dX10_quake_124 h70 rfl (by omega) (by decide) rfl ?_
              refine wp_aload_n G 0 dX10_quake_125 rfl ?_
              refine wp_get G 7 cOk9 fX10_96 dX10_quake_126 h64 rfl ?_
              refine wp_istore (lv' := [(7, zI ((n : Nat) : Int)), (0, zR 64), (1, zI a), (2, zI d), (3, zI x), (4, zI y), (5, zI g), (6, zI t)]) G dX10_quake_129 (by decide) rfl ?_
              refine wp_own (r := 73) (hp2 := (nx, h, [(65, oA 0 40 (fup (q 0) n a)), (66, oA 0 40 (fup (q 1) n d)), (67, oA 0 40 (fup (q 2) n x)), (68, oA 0 40 (fup (q 3) n y)), (69, oA 0 40 (fup (q 4) n g)), (70, oA 0 40 (fup (q 5) n t)), (73, oA 0 40 (fun p => ((o p : Nat) : Int)))])) h73 rfl ?_
              refine wp_lv [1, 2, 3, 4, 5, 6, 7, 0] rfl ?_
              suffices lp131 : ∀ (fu : Nat) (k : Nat) (v7 : Int) (A73 : Nat → Int), k < fu → (v7 = ((k : Nat) : Int)) → (A73 = fun r => ((shO o k n r : Nat) : Int)) → (k ≤ n) → (insP (fup (q 1) n d) o d k = insP (fup (q 1) n d) o d n) → Wp K 8 (Mx K h (fun rr nx' l' => nx' = nx ∧ ((¬ ((0 ≤ a ∧ a ≤ 2) ∧ (0 ≤ x ∧ x ≤ 15) ∧ (0 ≤ y ∧ y ≤ 15)) ∧ rr = some (zI (-1)) ∧ l' = []) ∨ (((0 ≤ a ∧ a ≤ 2) ∧ (0 ≤ x ∧ x ≤ 15) ∧ (0 ≤ y ∧ y ≤ 15)) ∧ ¬ ((0 ≤ d ∧ d ≤ 3999) ∧ (0 ≤ g ∧ g ≤ 90) ∧ (d ≤ t ∧ t ≤ 3999)) ∧ rr = some (zI (-2)) ∧ l' = []) ∨ (((0 ≤ a ∧ a ≤ 2) ∧ (0 ≤ x ∧ x ≤ 15) ∧ (0 ≤ y ∧ y ≤ 15)) ∧ ((0 ≤ d ∧ d ≤ 3999) ∧ (0 ≤ g ∧ g ≤ 90) ∧ (d ≤ t ∧ t ≤ 3999)) ∧ n = 40 ∧ rr = some (zI (-4)) ∧ l' = []) ∨ (((0 ≤ a ∧ a ≤ 2) ∧ (0 ≤ x ∧ x ≤ 15) ∧ (0 ≤ y ∧ y ≤ 15)) ∧ ((0 ≤ d ∧ d ≤ 3999) ∧ (0 ≤ g ∧ g ≤ 90) ∧ (d ≤ t ∧ t ≤ 3999)) ∧ n < 40 ∧ rr = some (zI ((n : Nat) : Int)) ∧ l' = [(65, oA 0 40 (fup (q 0) n a)), (66, oA 0 40 (fup (q 1) n d)), (67, oA 0 40 (fup (q 2) n x)), (68, oA 0 40 (fup (q 3) n y)), (69, oA 0 40 (fup (q 4) n g)), (70, oA 0 40 (fup (q 5) n t)), (73, oA 0 40 (fun r => ((insO (fup (q 1) n d) o (fup (q 1) n d n) n r : Nat) : Int))), (64, oO 9 [zR 65, zR 66, zR 67, zR 68, zR 69, zR 70, zR 71, zI (((n : Nat) : Int) + 1), zR 72, zR 73, zR 74, zR 75, zI ma, zI mb, zR 76, zR 77, zR 78, zR 79, zR 80, zR 81, zI ((fc : Nat) : Int), zR 82, zR 83, zR 84, zR 85, zR 86, zR 87, zI ((hn : Nat) : Int), zR 88, zR 89, zR 90, zR 91, zR 92, zI ((ln : Nat) : Int)])]))) (0, 0)) (0, 0) 131 [(0, zR 64), (1, zI a), (2, zI d), (3, zI x), (4, zI y), (5, zI g), (6, zI t), (7, zI v7)] [] (nx, h, [(65, oA 0 40 (fup (q 0) n a)), (66, oA 0 40 (fup (q 1) n d)), (67, oA 0 40 (fup (q 2) n x)), (68, oA 0 40 (fup (q 3) n y)), (69, oA 0 40 (fup (q 4) n g)), (70, oA 0 40 (fup (q 5) n t)), (73, oA 0 40 A73)]) from lp131 _ n ((n : Nat) : Int) (fun p => ((o p : Nat) : Int)) (Nat.lt_succ_self _) (by omega) (by exact shO_top o n) (by omega) (by rfl)
              intro fu
              induction fu with
              | zero => intro k v7 A73 hm; exact absurd hm (Nat.not_lt_zero _)
              | succ fu ih131 =>
                intro k v7 A73 hm131 e7 eA73 hi0 hi
                subst e7
                subst eA73
                refine wp_iload G 7 dX10_quake_131 rfl ?_
                refine wp_if_le G dX10_quake_133 (by omega) (fun kq7 => ?_) (fun kq7 => ?_)
                · skip
                  refine wp_aload_n G 0 dX10_quake_176 rfl ?_
                  refine wp_get G 9 cOk9 fX10_35 dX10_quake_177 h64 rfl ?_
                  refine wp_iload G 7 dX10_quake_180 rfl ?_
                  refine wp_aload_n G 0 dX10_quake_182 rfl ?_
                  refine wp_get G 7 cOk9 fX10_96 dX10_quake_183 h64 rfl ?_
                  refine wp_iastE (j := k) (hp2 := (nx, h, [(65, oA 0 40 (fup (q 0) n a)), (66, oA 0 40 (fup (q 1) n d)), (67, oA 0 40 (fup (q 2) n x)), (68, oA 0 40 (fup (q 3) n y)), (69, oA 0 40 (fup (q 4) n g)), (70, oA 0 40 (fup (q 5) n t)), (73, oA 0 40 (fup (fun r => ((shO o k n r : Nat) : Int)) k ((n : Nat) : Int)))])) G dX10_quake_186 rfl rfl (by omega) (by decide) rfl ?_
                  refine wp_aload_n G 0 dX10_quake_187 rfl ?_
                  refine wp_dup G rfl dX10_quake_188 ?_
                  refine wp_get G 7 cOk9 fX10_96 dX10_quake_189 h64 rfl ?_
                  refine wp_iconst G dX10_quake_192 ?_
                  refine wp_iadd G dX10_quake_193 ?_
                  refine wp_putE (hp2 := (nx, h, [(65, oA 0 40 (fup (q 0) n a)), (66, oA 0 40 (fup (q 1) n d)), (67, oA 0 40 (fup (q 2) n x)), (68, oA 0 40 (fup (q 3) n y)), (69, oA 0 40 (fup (q 4) n g)), (70, oA 0 40 (fup (q 5) n t)), (73, oA 0 40 (fup (fun r => ((shO o k n r : Nat) : Int)) k ((n : Nat) : Int))), (64, oO 9 [zR 65, zR 66, zR 67, zR 68, zR 69, zR 70, zR 71, zI (((n : Nat) : Int) + 1), zR 72, zR 73, zR 74, zR 75, zI ma, zI mb, zR 76, zR 77, zR 78, zR 79, zR 80, zR 81, zI ((fc : Nat) : Int), zR 82, zR 83, zR 84, zR 85, zR 86, zR 87, zI ((hn : Nat) : Int), zR 88, zR 89, zR 90, zR 91, zR 92, zI ((ln : Nat) : Int)])])) G 7 cOk9 fX10_96 dX10_quake_194 h64 (Nat.le_of_ble_eq_true rfl) (fit_int _) (fun _ e => by cases e; rfl) rfl ?_
                  refine wp_aload_n G 0 dX10_quake_197 rfl ?_
                  refine wp_get G 7 cOk9 fX10_96 dX10_quake_198 rfl rfl ?_
                  refine wp_iconst G dX10_quake_201 ?_
                  refine wp_isub G dX10_quake_202 ?_
                  exact wp_ireturn G hr dX10_quake_203 (by exact ⟨rfl, Or.inr (Or.inr (Or.inr (⟨by omega, by omega, by omega, by rw [Int.add_sub_cancel], by rw [insO_fin (d := d) hi (by first | exact Or.inl (by omega) | exact Or.inr (by rw [hs] at kq8; exact kq8)), edd]⟩)))⟩)
                · skip
                  refine wp_aload_n G 0 dX10_quake_136 rfl ?_
                  refine wp_get G 1 cOk9 fX10_13 dX10_quake_137 h64 rfl ?_
                  refine wp_aload_n G 0 dX10_quake_140 rfl ?_
                  refine wp_get G 9 cOk9 fX10_35 dX10_quake_141 h64 rfl ?_
                  refine wp_iload G 7 dX10_quake_144 rfl ?_
                  refine wp_iconst G dX10_quake_146 ?_
                  refine wp_isub G dX10_quake_147 ?_
                  refine wp_iald (j := k - 1) G dX10_quake_148 rfl (by omega) (by omega) (by decide) ?_
                  have hs := shO_at o (k := k) (n := n) (by omega)
                  have ho1 := hO.o (k - 1) (by omega)
                  refine wp_iald (j := shO o k n (k - 1)) G dX10_quake_149 rfl rfl (by omega) (by decide) ?_
                  refine wp_iload_n G 2 dX10_quake_150 rfl ?_
                  have hd1 : r32 ((fup (q 1) n d) (shO o k n (k - 1))) := fup_r ri_d (fun j hj => by have := hO.d j hj; omega) _ (by omega)
                  refine wp_icmp_le G dX10_quake_151 (by omega) (by omega) (fun kq8 => ?_) (fun kq8 => ?_)
                  · skip
                    refine wp_aload_n G 0 dX10_quake_176 rfl ?_
                    refine wp_get G 9 cOk9 fX10_35 dX10_quake_177 h64 rfl ?_
                    refine wp_iload G 7 dX10_quake_180 rfl ?_
                    refine wp_aload_n G 0 dX10_quake_182 rfl ?_
                    refine wp_get G 7 cOk9 fX10_96 dX10_quake_183 h64 rfl ?_
                    refine wp_iastE (j := k) (hp2 := (nx, h, [(65, oA 0 40 (fup (q 0) n a)), (66, oA 0 40 (fup (q 1) n d)), (67, oA 0 40 (fup (q 2) n x)), (68, oA 0 40 (fup (q 3) n y)), (69, oA 0 40 (fup (q 4) n g)), (70, oA 0 40 (fup (q 5) n t)), (73, oA 0 40 (fup (fun r => ((shO o k n r : Nat) : Int)) k ((n : Nat) : Int)))])) G dX10_quake_186 rfl rfl (by omega) (by decide) rfl ?_
                    refine wp_aload_n G 0 dX10_quake_187 rfl ?_
                    refine wp_dup G rfl dX10_quake_188 ?_
                    refine wp_get G 7 cOk9 fX10_96 dX10_quake_189 h64 rfl ?_
                    refine wp_iconst G dX10_quake_192 ?_
                    refine wp_iadd G dX10_quake_193 ?_
                    refine wp_putE (hp2 := (nx, h, [(65, oA 0 40 (fup (q 0) n a)), (66, oA 0 40 (fup (q 1) n d)), (67, oA 0 40 (fup (q 2) n x)), (68, oA 0 40 (fup (q 3) n y)), (69, oA 0 40 (fup (q 4) n g)), (70, oA 0 40 (fup (q 5) n t)), (73, oA 0 40 (fup (fun r => ((shO o k n r : Nat) : Int)) k ((n : Nat) : Int))), (64, oO 9 [zR 65, zR 66, zR 67, zR 68, zR 69, zR 70, zR 71, zI (((n : Nat) : Int) + 1), zR 72, zR 73, zR 74, zR 75, zI ma, zI mb, zR 76, zR 77, zR 78, zR 79, zR 80, zR 81, zI ((fc : Nat) : Int), zR 82, zR 83, zR 84, zR 85, zR 86, zR 87, zI ((hn : Nat) : Int), zR 88, zR 89, zR 90, zR 91, zR 92, zI ((ln : Nat) : Int)])])) G 7 cOk9 fX10_96 dX10_quake_194 h64 (Nat.le_of_ble_eq_true rfl) (fit_int _) (fun _ e => by cases e; rfl) rfl ?_
                    refine wp_aload_n G 0 dX10_quake_197 rfl ?_
                    refine wp_get G 7 cOk9 fX10_96 dX10_quake_198 rfl rfl ?_
                    refine wp_iconst G dX10_quake_201 ?_
                    refine wp_isub G dX10_quake_202 ?_
                    exact wp_ireturn G hr dX10_quake_203 (by exact ⟨rfl, Or.inr (Or.inr (Or.inr (⟨by omega, by omega, by omega, by rw [Int.add_sub_cancel], by rw [insO_fin (d := d) hi (by first | exact Or.inl (by omega) | exact Or.inr (by rw [hs] at kq8; exact kq8)), edd]⟩)))⟩)
                  · skip
                    refine wp_aload_n G 0 dX10_quake_154 rfl ?_
                    refine wp_get G 9 cOk9 fX10_35 dX10_quake_155 h64 rfl ?_
                    refine wp_iload G 7 dX10_quake_158 rfl ?_
                    refine wp_aload_n G 0 dX10_quake_160 rfl ?_
                    refine wp_get G 9 cOk9 fX10_35 dX10_quake_161 h64 rfl ?_
                    refine wp_iload G 7 dX10_quake_164 rfl ?_
                    refine wp_iconst G dX10_quake_166 ?_
                    refine wp_isub G dX10_quake_167 ?_
                    refine wp_iald (j := k - 1) G dX10_quake_168 rfl (by omega) (by omega) (by decide) ?_
                    refine wp_iastE (j := k) (hp2 := (nx, h, [(65, oA 0 40 (fup (q 0) n a)), (66, oA 0 40 (fup (q 1) n d)), (67, oA 0 40 (fup (q 2) n x)), (68, oA 0 40 (fup (q 3) n y)), (69, oA 0 40 (fup (q 4) n g)), (70, oA 0 40 (fup (q 5) n t)), (73, oA 0 40 (fup (fun r => ((shO o k n r : Nat) : Int)) k ((shO o k n (k - 1) : Nat) : Int)))])) G dX10_quake_169 rfl rfl (by omega) (by decide) rfl ?_
                    refine wp_iinc (lv' := [(7, zI (((k : Nat) : Int) + (-1))), (0, zR 64), (1, zI a), (2, zI d), (3, zI x), (4, zI y), (5, zI g), (6, zI t)]) G 7 dX10_quake_170 rfl (by decide) rfl ?_
                    refine wp_goto G dX10_quake_173 ?_
                    refine wp_lv [1, 2, 3, 4, 5, 6, 7, 0] rfl ?_
                    exact ih131 (k - 1) (((k : Nat) : Int) + (-1)) (fup (fun r => ((shO o k n r : Nat) : Int)) k ((shO o k n (k - 1) : Nat) : Int)) (by omega) (by omega) (by exact shO_step o (by omega) (by omega)) (by omega) (by rw [insP_step (by omega) (by rw [hs] at kq8; exact kq8)]; exact hi)
            · skip
              refine wp_bipush G dX10_quake_59 (by decide) ?_
              exact wp_ireturn G hr dX10_quake_61 (by exact ⟨rfl, Or.inr (Or.inr (Or.inl (⟨by omega, by omega, by omega, rfl, rfl⟩)))⟩)
          · skip
            refine wp_bipush G dX10_quake_47 (by decide) ?_
            exact wp_ireturn G hr dX10_quake_49 (by exact ⟨rfl, Or.inr (Or.inl (⟨by omega, by omega, rfl, rfl⟩))⟩)
    · skip
      refine wp_iconst G dX10_quake_16 ?_
      exact wp_ireturn G hr dX10_quake_17 (by exact ⟨rfl, Or.inl (⟨by omega, rfl, rfl⟩)⟩)

set_option maxRecDepth 100000 in
set_option maxHeartbeats 4000000 in
theorem t_X9_blast {nx : Nat} {h : Nat → Option PC} {n : Nat} {q : Nat → Nat → Int} {o : Nat → Nat} {fc : Nat} {v : Int} {b : Int} (hQ : isQ h n q o) (hO : okQ n q o) (h0 : h 0 = some (oO 8 [zR 1, zR 2, zR 11, zR 34, zR 36, zR 42, zR 44, zI ((fc : Nat) : Int), zR 45, zR 48])) (ri_v : r32 v) (hb : b = 0 ∨ b = 1) : Cx 1 (0, 0) yX9_blast cX9_blast 4 (some .int) [zR 0, zI v, zI b] nx h (fun rr nx' l' => nx' = nx ∧ ((¬ (0 ≤ v ∧ v < ((n : Nat) : Int)) ∧ rr = some (zI (-1)) ∧ l' = []) ∨ (∃ j : Nat, v = ((j : Nat) : Int) ∧ j < n ∧ rr = some (zI (q 6 j)) ∧ l' = [(9, oA 1 40 (fup (q 6) j b))]))) := by
  refine cx_of pnX9_blast (Nat.le_of_ble_eq_true rfl) ?_
  intro K G hr hnm hR
  obtain ⟨h2, h3, h4, h5, h6, h7, h8, h9, h10⟩ := id hQ
  have hn40 := hO.1
  show Wp K 4 (Mx K h (fun rr nx' l' => nx' = nx ∧ ((¬ (0 ≤ v ∧ v < ((n : Nat) : Int)) ∧ rr = some (zI (-1)) ∧ l' = []) ∨ (∃ j : Nat, v = ((j : Nat) : Int) ∧ j < n ∧ rr = some (zI (q 6 j)) ∧ l' = [(9, oA 1 40 (fup (q 6) j b))]))) (0, 0)) (0, 0) 0 [(0, zR 0), (1, zI v), (2, zI b)] [] (nx, h, [])
  refine wp_aload_n G 0 dX9_blast_0 rfl ?_
  refine wp_get G 1 cOk8 fX9_16 dX9_blast_1 h0 rfl ?_
  refine wp_iload_n G 1 dX9_blast_4 rfl ?_
  refine wp_cVE (b := 2) (ci := 5) (as := [zI v]) (rest := []) (hp2 := (nx, h, [])) G mX6_has lX9_94 iX6_has eX6_has ⟨_, rfl, rfl⟩ dX9_blast_5 h2 rfl rfl (Nat.le_of_ble_eq_true rfl) (rmx_ok hR (by decide) (by decide) (by decide) (by decide)) (t_X6_has (nx := nx) (v := v) hQ hO ri_v) rfl ?_
  refine wp_ifne_bt G dX9_blast_8 (fun kq1 => ?_) (fun kq1 => ?_)
  · skip
    obtain ⟨vv, e_vv⟩ := Int.eq_ofNat_of_zero_le (show 0 ≤ v from (by omega))
    subst e_vv
    refine wp_aload_n G 0 dX9_blast_13 rfl ?_
    refine wp_get G 1 cOk8 fX9_16 dX9_blast_14 h0 rfl ?_
    refine wp_get G 7 cOk5 fX9_97 dX9_blast_17 h2 rfl ?_
    refine wp_iload_n G 1 dX9_blast_20 rfl ?_
    refine wp_zald (j := vv) G dX9_blast_21 h9 rfl (by omega) (by decide) ?_
    have rrq1 := hO.b vv (by omega)
    refine wp_istore_n (lv' := [(3, zI ((q 6) vv)), (0, zR 0), (1, zI ((vv : Nat) : Int)), (2, zI b)]) G dX9_blast_22 (by decide) rfl ?_
    refine wp_aload_n G 1 dX9_blast_23 rfl ?_
    refine wp_get G 1 cOk8 fX9_16 dX9_blast_24 h0 rfl ?_
    refine wp_get G 7 cOk5 fX9_97 dX9_blast_27 h2 rfl ?_
    refine wp_iload_n G 2 dX9_blast_30 rfl ?_
    refine wp_iload_n G 3 dX9_blast_31 rfl ?_
    refine wp_zastE (j := vv) (hp2 := (nx, h, [(9, oA 1 40 (fup (q 6) vv b))])) G (by omega) dX9_blast_32 h9 rfl (by omega) (by decide) rfl ?_
    refine wp_iload_n G 0 dX9_blast_33 rfl ?_
    refine wp_cSE (as := [zI ((q 6) vv)]) (rest := []) (hp2 := (nx, h, [(9, oA 1 40 (fup (q 6) vv b))])) G mX9_asNumber lX9_101 sX9_asNumber dX9_blast_34 rfl rfl (Nat.le_of_ble_eq_true rfl) (rmx_ok hR (by decide) (by decide) (by decide) (by decide)) (t_X9_asNum2 (nx := nx) (v := (q 6 vv)) (by omega)) rfl ?_
    exact wp_ireturn G hr dX9_blast_37 (by exact ⟨rfl, Or.inr (⟨vv, rfl, by omega, rfl, rfl⟩)⟩)
  · skip
    refine wp_iconst G dX9_blast_11 ?_
    exact wp_ireturn G hr dX9_blast_12 (by exact ⟨rfl, Or.inl (⟨by omega, rfl, rfl⟩)⟩)

set_option maxRecDepth 100000 in
set_option maxHeartbeats 4000000 in
theorem t_X10_blast {nx : Nat} {h : Nat → Option PC} {n : Nat} {q : Nat → Nat → Int} {o : Nat → Nat} {fc : Nat} {hn : Nat} {ln : Nat} {ma : Int} {mb : Int} {st : Nat → Int} {v : Int} {b : Int} (hQ : isM h n q o fc hn ln ma mb st) (hO : okQ n q o) (hN : okN st) (ri_v : r32 v) (hb : b = 0 ∨ b = 1) : Cx 2 (0, 0) yX10_blast cX10_blast 4 (some .int) [zR 64, zI v, zI b] nx h (fun rr nx' l' => nx' = nx ∧ ((¬ (0 ≤ v ∧ v < ((n : Nat) : Int)) ∧ rr = some (zI (-1)) ∧ l' = []) ∨ (∃ j : Nat, v = ((j : Nat) : Int) ∧ j < n ∧ rr = some (zI (q 6 j)) ∧ l' = [(71, oA 1 40 (fup (q 6) j b))]))) := by
  refine cx_of pnX10_blast (Nat.le_of_ble_eq_true rfl) ?_
  intro K G hr hnm hR
  obtain ⟨h64, h65, h66, h67, h68, h69, h70, h71, h72, h73⟩ := id hQ
  have hn40 := hO.1
  obtain ⟨hN0, hN1, hN2, hN3, hN4⟩ := id hN
  show Wp K 4 (Mx K h (fun rr nx' l' => nx' = nx ∧ ((¬ (0 ≤ v ∧ v < ((n : Nat) : Int)) ∧ rr = some (zI (-1)) ∧ l' = []) ∨ (∃ j : Nat, v = ((j : Nat) : Int) ∧ j < n ∧ rr = some (zI (q 6 j)) ∧ l' = [(71, oA 1 40 (fup (q 6) j b))]))) (0, 0)) (0, 0) 0 [(0, zR 64), (1, zI v), (2, zI b)] [] (nx, h, [])
  refine wp_aload_n G 0 dX10_blast_0 rfl ?_
  refine wp_iload_n G 1 dX10_blast_1 rfl ?_
  refine wp_cVE (b := 64) (ci := 9) (as := [zI v]) (rest := []) (hp2 := (nx, h, [])) G mX10_isQuake lX10_126 iX10_isQuake eX10_isQuake ⟨_, rfl, rfl⟩ dX10_blast_2 h64 rfl rfl (Nat.le_of_ble_eq_true rfl) (rmx_ok hR (by decide) (by decide) (by decide) (by decide)) (t_X10_isQuake (nx := nx) (v := v) hQ hO hN ri_v) rfl ?_
  refine wp_ifne_bt G dX10_blast_5 (fun kq1 => ?_) (fun kq1 => ?_)
  · skip
    obtain ⟨vv, e_vv⟩ := Int.eq_ofNat_of_zero_le (show 0 ≤ v from (by omega))
    subst e_vv
    refine wp_aload_n G 0 dX10_blast_10 rfl ?_
    refine wp_get G 6 cOk9 fX10_28 dX10_blast_11 h64 rfl ?_
    refine wp_iload_n G 1 dX10_blast_14 rfl ?_
    refine wp_zald (j := vv) G dX10_blast_15 h71 rfl (by omega) (by decide) ?_
    have rrq1 := hO.b vv (by omega)
    refine wp_if_eq G dX10_blast_16 (by omega) (fun kq2 => ?_) (fun kq2 => ?_)
    · skip
      refine wp_iconst G dX10_blast_23 ?_
      refine wp_istore_n (lv' := [(3, zI 0), (0, zR 64), (1, zI ((vv : Nat) : Int)), (2, zI b)]) G dX10_blast_24 (by decide) rfl ?_
      refine wp_aload_n G 1 dX10_blast_25 rfl ?_
      refine wp_get G 6 cOk9 fX10_28 dX10_blast_26 h64 rfl ?_
      refine wp_iload_n G 2 dX10_blast_29 rfl ?_
      refine wp_iload_n G 3 dX10_blast_30 rfl ?_
      refine wp_zastE (j := vv) (hp2 := (nx, h, [(71, oA 1 40 (fup (q 6) vv b))])) G (by omega) dX10_blast_31 h71 rfl (by omega) (by decide) rfl ?_
      refine wp_iload_n G 0 dX10_blast_32 rfl ?_
      exact wp_ireturn G hr dX10_blast_33 (by exact ⟨rfl, Or.inr (⟨vv, rfl, by omega, by congr 2; omega, rfl⟩)⟩)
    · skip
      refine wp_iconst G dX10_blast_19 ?_
      refine wp_goto G dX10_blast_20 ?_
      refine wp_istore_n (lv' := [(3, zI 1), (0, zR 64), (1, zI ((vv : Nat) : Int)), (2, zI b)]) G dX10_blast_24 (by decide) rfl ?_
      refine wp_aload_n G 1 dX10_blast_25 rfl ?_
      refine wp_get G 6 cOk9 fX10_28 dX10_blast_26 h64 rfl ?_
      refine wp_iload_n G 2 dX10_blast_29 rfl ?_
      refine wp_iload_n G 3 dX10_blast_30 rfl ?_
      refine wp_zastE (j := vv) (hp2 := (nx, h, [(71, oA 1 40 (fup (q 6) vv b))])) G (by omega) dX10_blast_31 h71 rfl (by omega) (by decide) rfl ?_
      refine wp_iload_n G 0 dX10_blast_32 rfl ?_
      exact wp_ireturn G hr dX10_blast_33 (by exact ⟨rfl, Or.inr (⟨vv, rfl, by omega, by congr 2; omega, rfl⟩)⟩)
  · skip
    refine wp_iconst G dX10_blast_8 ?_
    exact wp_ireturn G hr dX10_blast_9 (by exact ⟨rfl, Or.inl (⟨by omega, rfl, rfl⟩)⟩)

set_option maxRecDepth 100000 in
set_option maxHeartbeats 4000000 in
theorem t_X9_mend {nx : Nat} {h : Nat → Option PC} {n : Nat} {q : Nat → Nat → Int} {o : Nat → Nat} {fc : Nat} {v : Int} {b : Int} (hQ : isQ h n q o) (hO : okQ n q o) (h0 : h 0 = some (oO 8 [zR 1, zR 2, zR 11, zR 34, zR 36, zR 42, zR 44, zI ((fc : Nat) : Int), zR 45, zR 48])) (ri_v : r32 v) (ri_b : r32 b) : Cx 2 (0, 0) yX9_mend cX9_mend 4 (some .int) [zR 0, zI v, zI b] nx h (fun rr nx' l' => nx' = nx ∧ ((¬ (0 ≤ v ∧ v < ((n : Nat) : Int)) ∧ rr = some (zI (-1)) ∧ l' = []) ∨ ((0 ≤ v ∧ v < ((n : Nat) : Int)) ∧ ¬ (0 ≤ b ∧ b ≤ 90) ∧ rr = some (zI (-2)) ∧ l' = []) ∨ (∃ j : Nat, v = ((j : Nat) : Int) ∧ j < n ∧ (0 ≤ b ∧ b ≤ 90) ∧ rr = some (zI (q 4 j)) ∧ l' = [(7, oA 0 40 (fup (q 4) j b))]))) := by
  refine cx_of pnX9_mend (Nat.le_of_ble_eq_true rfl) ?_
  intro K G hr hnm hR
  obtain ⟨h2, h3, h4, h5, h6, h7, h8, h9, h10⟩ := id hQ
  have hn40 := hO.1
  show Wp K 4 (Mx K h (fun rr nx' l' => nx' = nx ∧ ((¬ (0 ≤ v ∧ v < ((n : Nat) : Int)) ∧ rr = some (zI (-1)) ∧ l' = []) ∨ ((0 ≤ v ∧ v < ((n : Nat) : Int)) ∧ ¬ (0 ≤ b ∧ b ≤ 90) ∧ rr = some (zI (-2)) ∧ l' = []) ∨ (∃ j : Nat, v = ((j : Nat) : Int) ∧ j < n ∧ (0 ≤ b ∧ b ≤ 90) ∧ rr = some (zI (q 4 j)) ∧ l' = [(7, oA 0 40 (fup (q 4) j b))]))) (0, 0)) (0, 0) 0 [(0, zR 0), (1, zI v), (2, zI b)] [] (nx, h, [])
  refine wp_aload_n G 0 dX9_mend_0 rfl ?_
  refine wp_get G 1 cOk8 fX9_16 dX9_mend_1 h0 rfl ?_
  refine wp_iload_n G 1 dX9_mend_4 rfl ?_
  refine wp_cVE (b := 2) (ci := 5) (as := [zI v]) (rest := []) (hp2 := (nx, h, [])) G mX6_has lX9_94 iX6_has eX6_has ⟨_, rfl, rfl⟩ dX9_mend_5 h2 rfl rfl (Nat.le_of_ble_eq_true rfl) (rmx_ok hR (by decide) (by decide) (by decide) (by decide)) (t_X6_has (nx := nx) (v := v) hQ hO ri_v) rfl ?_
  refine wp_ifne_bt G dX9_mend_8 (fun kq1 => ?_) (fun kq1 => ?_)
  · skip
    refine wp_iload_n G 2 dX9_mend_13 rfl ?_
    refine wp_cSE (as := [zI b]) (rest := []) (hp2 := (nx, h, [])) G mX9_isGreatness lX9_83 sX9_isGreatness dX9_mend_14 rfl rfl (Nat.le_of_ble_eq_true rfl) (rmx_ok hR (by decide) (by decide) (by decide) (by decide)) (t_X9_isGreatness (nx := nx) (v := b) (by omega)) rfl ?_
    refine wp_ifne_bt G dX9_mend_17 (fun kq2 => ?_) (fun kq2 => ?_)
    · skip
      obtain ⟨vv, e_vv⟩ := Int.eq_ofNat_of_zero_le (show 0 ≤ v from (by omega))
      subst e_vv
      refine wp_aload_n G 0 dX9_mend_23 rfl ?_
      refine wp_get G 1 cOk8 fX9_16 dX9_mend_24 h0 rfl ?_
      refine wp_get G 5 cOk5 fX9_105 dX9_mend_27 h2 rfl ?_
      refine wp_iload_n G 1 dX9_mend_30 rfl ?_
      refine wp_iald (j := vv) G dX9_mend_31 h7 rfl (by omega) (by decide) ?_
      have rrq1 := hO.g vv (by omega)
      refine wp_istore_n (lv' := [(3, zI ((q 4) vv)), (0, zR 0), (1, zI ((vv : Nat) : Int)), (2, zI b)]) G dX9_mend_32 (by decide) rfl ?_
      refine wp_aload_n G 1 dX9_mend_33 rfl ?_
      refine wp_get G 1 cOk8 fX9_16 dX9_mend_34 h0 rfl ?_
      refine wp_get G 5 cOk5 fX9_105 dX9_mend_37 h2 rfl ?_
      refine wp_iload_n G 2 dX9_mend_40 rfl ?_
      refine wp_iload_n G 3 dX9_mend_41 rfl ?_
      refine wp_iastE (j := vv) (hp2 := (nx, h, [(7, oA 0 40 (fup (q 4) vv b))])) G dX9_mend_42 h7 rfl (by omega) (by decide) rfl ?_
      refine wp_iload_n G 0 dX9_mend_43 rfl ?_
      exact wp_ireturn G hr dX9_mend_44 (by exact ⟨rfl, Or.inr (Or.inr (⟨vv, rfl, by omega, by omega, rfl, rfl⟩))⟩)
    · skip
      refine wp_bipush G dX9_mend_20 (by decide) ?_
      exact wp_ireturn G hr dX9_mend_22 (by exact ⟨rfl, Or.inr (Or.inl (⟨by omega, by omega, rfl, rfl⟩))⟩)
  · skip
    refine wp_iconst G dX9_mend_11 ?_
    exact wp_ireturn G hr dX9_mend_12 (by exact ⟨rfl, Or.inl (⟨by omega, rfl, rfl⟩)⟩)

set_option maxRecDepth 100000 in
set_option maxHeartbeats 4000000 in
theorem t_X10_mend {nx : Nat} {h : Nat → Option PC} {n : Nat} {q : Nat → Nat → Int} {o : Nat → Nat} {fc : Nat} {hn : Nat} {ln : Nat} {ma : Int} {mb : Int} {st : Nat → Int} {v : Int} {b : Int} (hQ : isM h n q o fc hn ln ma mb st) (hO : okQ n q o) (hN : okN st) (ri_v : r32 v) (ri_b : r32 b) : Cx 2 (0, 0) yX10_mend cX10_mend 4 (some .int) [zR 64, zI v, zI b] nx h (fun rr nx' l' => nx' = nx ∧ ((¬ (0 ≤ v ∧ v < ((n : Nat) : Int)) ∧ rr = some (zI (-1)) ∧ l' = []) ∨ ((0 ≤ v ∧ v < ((n : Nat) : Int)) ∧ ¬ (0 ≤ b ∧ b ≤ 90) ∧ rr = some (zI (-2)) ∧ l' = []) ∨ (∃ j : Nat, v = ((j : Nat) : Int) ∧ j < n ∧ (0 ≤ b ∧ b ≤ 90) ∧ rr = some (zI (q 4 j)) ∧ l' = [(69, oA 0 40 (fup (q 4) j b))]))) := by
  refine cx_of pnX10_mend (Nat.le_of_ble_eq_true rfl) ?_
  intro K G hr hnm hR
  obtain ⟨h64, h65, h66, h67, h68, h69, h70, h71, h72, h73⟩ := id hQ
  have hn40 := hO.1
  obtain ⟨hN0, hN1, hN2, hN3, hN4⟩ := id hN
  show Wp K 4 (Mx K h (fun rr nx' l' => nx' = nx ∧ ((¬ (0 ≤ v ∧ v < ((n : Nat) : Int)) ∧ rr = some (zI (-1)) ∧ l' = []) ∨ ((0 ≤ v ∧ v < ((n : Nat) : Int)) ∧ ¬ (0 ≤ b ∧ b ≤ 90) ∧ rr = some (zI (-2)) ∧ l' = []) ∨ (∃ j : Nat, v = ((j : Nat) : Int) ∧ j < n ∧ (0 ≤ b ∧ b ≤ 90) ∧ rr = some (zI (q 4 j)) ∧ l' = [(69, oA 0 40 (fup (q 4) j b))]))) (0, 0)) (0, 0) 0 [(0, zR 64), (1, zI v), (2, zI b)] [] (nx, h, [])
  refine wp_aload_n G 0 dX10_mend_0 rfl ?_
  refine wp_iload_n G 1 dX10_mend_1 rfl ?_
  refine wp_cVE (b := 64) (ci := 9) (as := [zI v]) (rest := []) (hp2 := (nx, h, [])) G mX10_isQuake lX10_126 iX10_isQuake eX10_isQuake ⟨_, rfl, rfl⟩ dX10_mend_2 h64 rfl rfl (Nat.le_of_ble_eq_true rfl) (rmx_ok hR (by decide) (by decide) (by decide) (by decide)) (t_X10_isQuake (nx := nx) (v := v) hQ hO hN ri_v) rfl ?_
  refine wp_ifne_bt G dX10_mend_5 (fun kq1 => ?_) (fun kq1 => ?_)
  · skip
    refine wp_iload_n G 2 dX10_mend_10 rfl ?_
    refine wp_cSE (as := [zI b]) (rest := []) (hp2 := (nx, h, [])) G mX10_isGreat lX10_123 sX10_isGreat dX10_mend_11 rfl rfl (Nat.le_of_ble_eq_true rfl) (rmx_ok hR (by decide) (by decide) (by decide) (by decide)) (t_X10_isGreat (nx := nx) (v := b) (by omega)) rfl ?_
    refine wp_ifne_bt G dX10_mend_14 (fun kq2 => ?_) (fun kq2 => ?_)
    · skip
      obtain ⟨vv, e_vv⟩ := Int.eq_ofNat_of_zero_le (show 0 ≤ v from (by omega))
      subst e_vv
      refine wp_aload_n G 0 dX10_mend_20 rfl ?_
      refine wp_get G 4 cOk9 fX10_22 dX10_mend_21 h64 rfl ?_
      refine wp_iload_n G 1 dX10_mend_24 rfl ?_
      refine wp_iald (j := vv) G dX10_mend_25 h69 rfl (by omega) (by decide) ?_
      have rrq1 := hO.g vv (by omega)
      refine wp_istore_n (lv' := [(3, zI ((q 4) vv)), (0, zR 64), (1, zI ((vv : Nat) : Int)), (2, zI b)]) G dX10_mend_26 (by decide) rfl ?_
      refine wp_aload_n G 1 dX10_mend_27 rfl ?_
      refine wp_get G 4 cOk9 fX10_22 dX10_mend_28 h64 rfl ?_
      refine wp_iload_n G 2 dX10_mend_31 rfl ?_
      refine wp_iload_n G 3 dX10_mend_32 rfl ?_
      refine wp_iastE (j := vv) (hp2 := (nx, h, [(69, oA 0 40 (fup (q 4) vv b))])) G dX10_mend_33 h69 rfl (by omega) (by decide) rfl ?_
      refine wp_iload_n G 0 dX10_mend_34 rfl ?_
      exact wp_ireturn G hr dX10_mend_35 (by exact ⟨rfl, Or.inr (Or.inr (⟨vv, rfl, by omega, by omega, rfl, rfl⟩))⟩)
    · skip
      refine wp_bipush G dX10_mend_17 (by decide) ?_
      exact wp_ireturn G hr dX10_mend_19 (by exact ⟨rfl, Or.inr (Or.inl (⟨by omega, by omega, rfl, rfl⟩))⟩)
  · skip
    refine wp_iconst G dX10_mend_8 ?_
    exact wp_ireturn G hr dX10_mend_9 (by exact ⟨rfl, Or.inl (⟨by omega, rfl, rfl⟩)⟩)

set_option maxRecDepth 100000 in
set_option maxHeartbeats 4000000 in
theorem t_X9_about {nx : Nat} {h : Nat → Option PC} {n : Nat} {q : Nat → Nat → Int} {o : Nat → Nat} {fc : Nat} {v : Int} {w : Int} (hQ : isQ h n q o) (hO : okQ n q o) (h0 : h 0 = some (oO 8 [zR 1, zR 2, zR 11, zR 34, zR 36, zR 42, zR 44, zI ((fc : Nat) : Int), zR 45, zR 48])) (ri_v : r32 v) (ri_w : r32 w) : Cx 2 (0, 0) yX9_about cX9_about 3 (some .int) [zR 0, zI v, zI w] nx h (Rt (zI (ansB n q o v w)) nx []) := by
  refine cx_of pnX9_about (Nat.le_of_ble_eq_true rfl) ?_
  intro K G hr hnm hR
  obtain ⟨h2, h3, h4, h5, h6, h7, h8, h9, h10⟩ := id hQ
  have hn40 := hO.1
  show Wp K 3 (Mx K h (Rt (zI (ansB n q o v w)) nx []) (0, 0)) (0, 0) 0 [(0, zR 0), (1, zI v), (2, zI w)] [] (nx, h, [])
  refine wp_aload_n G 0 dX9_about_0 rfl ?_
  refine wp_get G 1 cOk8 fX9_16 dX9_about_1 h0 rfl ?_
  refine wp_iload_n G 1 dX9_about_4 rfl ?_
  refine wp_cVE (b := 2) (ci := 5) (as := [zI v]) (rest := []) (hp2 := (nx, h, [])) G mX6_has lX9_94 iX6_has eX6_has ⟨_, rfl, rfl⟩ dX9_about_5 h2 rfl rfl (Nat.le_of_ble_eq_true rfl) (rmx_ok hR (by decide) (by decide) (by decide) (by decide)) (t_X6_has (nx := nx) (v := v) hQ hO ri_v) rfl ?_
  refine wp_ifne_bt G dX9_about_8 (fun kq1 => ?_) (fun kq1 => ?_)
  · skip
    obtain ⟨vv, e_vv⟩ := Int.eq_ofNat_of_zero_le (show 0 ≤ v from (by omega))
    subst e_vv
    refine wp_iload_n G 2 dX9_about_13 rfl ?_
    have sq1 : w = 0 ∨ w = 1 ∨ w = 2 ∨ w = 3 ∨ w = 4 ∨ w = 5 ∨ w = 6 ∨ w = 7 ∨ (w < 0 ∨ 7 < w) := by omega
    rcases sq1 with rfl | rfl | rfl | rfl | rfl | rfl | rfl | rfl | sq1
    · refine wp_tableIn (off := 46) (tgt := 60) G dX9_about_14 (by omega) (by omega) (by omega) rfl (by decide) ?_
      refine wp_aload_n G 0 dX9_about_60 rfl ?_
      refine wp_get G 1 cOk8 fX9_16 dX9_about_61 h0 rfl ?_
      refine wp_get G 1 cOk5 fX9_108 dX9_about_64 h2 rfl ?_
      refine wp_iload_n G 1 dX9_about_67 rfl ?_
      refine wp_iald (j := vv) G dX9_about_68 h3 rfl (by omega) (by decide) ?_
      have rrq1 := hO.l vv (by omega)
      exact wp_ireturn G hr dX9_about_69 ⟨by first | (rw [ansB, if_pos (by omega)]; done) | (rw [ansB, if_neg (by omega)]; simp; done) | (rw [ansB, if_neg (by omega), if_neg (by omega), if_neg (by omega), if_neg (by omega), if_neg (by omega), if_neg (by omega), if_neg (by omega), if_neg (by omega), if_neg (by omega)]; done), rfl, by rfl⟩
    · refine wp_tableIn (off := 56) (tgt := 70) G dX9_about_14 (by omega) (by omega) (by omega) rfl (by decide) ?_
      refine wp_aload_n G 0 dX9_about_70 rfl ?_
      refine wp_get G 1 cOk8 fX9_16 dX9_about_71 h0 rfl ?_
      refine wp_get G 2 cOk5 fX9_111 dX9_about_74 h2 rfl ?_
      refine wp_iload_n G 1 dX9_about_77 rfl ?_
      refine wp_iald (j := vv) G dX9_about_78 h4 rfl (by omega) (by decide) ?_
      have rrq2 := hO.d vv (by omega)
      exact wp_ireturn G hr dX9_about_79 ⟨by first | (rw [ansB, if_pos (by omega)]; done) | (rw [ansB, if_neg (by omega)]; simp; done) | (rw [ansB, if_neg (by omega), if_neg (by omega), if_neg (by omega), if_neg (by omega), if_neg (by omega), if_neg (by omega), if_neg (by omega), if_neg (by omega), if_neg (by omega)]; done), rfl, by rfl⟩
    · refine wp_tableIn (off := 66) (tgt := 80) G dX9_about_14 (by omega) (by omega) (by omega) rfl (by decide) ?_
      refine wp_aload_n G 0 dX9_about_80 rfl ?_
      refine wp_get G 1 cOk8 fX9_16 dX9_about_81 h0 rfl ?_
      refine wp_get G 3 cOk5 fX9_114 dX9_about_84 h2 rfl ?_
      refine wp_iload_n G 1 dX9_about_87 rfl ?_
      refine wp_iald (j := vv) G dX9_about_88 h5 rfl (by omega) (by decide) ?_
      have rrq3 := hO.x vv (by omega)
      exact wp_ireturn G hr dX9_about_89 ⟨by first | (rw [ansB, if_pos (by omega)]; done) | (rw [ansB, if_neg (by omega)]; simp; done) | (rw [ansB, if_neg (by omega), if_neg (by omega), if_neg (by omega), if_neg (by omega), if_neg (by omega), if_neg (by omega), if_neg (by omega), if_neg (by omega), if_neg (by omega)]; done), rfl, by rfl⟩
    · refine wp_tableIn (off := 76) (tgt := 90) G dX9_about_14 (by omega) (by omega) (by omega) rfl (by decide) ?_
      refine wp_aload_n G 0 dX9_about_90 rfl ?_
      refine wp_get G 1 cOk8 fX9_16 dX9_about_91 h0 rfl ?_
      refine wp_get G 4 cOk5 fX9_117 dX9_about_94 h2 rfl ?_
      refine wp_iload_n G 1 dX9_about_97 rfl ?_
      refine wp_iald (j := vv) G dX9_about_98 h6 rfl (by omega) (by decide) ?_
      have rrq4 := hO.y vv (by omega)
      exact wp_ireturn G hr dX9_about_99 ⟨by first | (rw [ansB, if_pos (by omega)]; done) | (rw [ansB, if_neg (by omega)]; simp; done) | (rw [ansB, if_neg (by omega), if_neg (by omega), if_neg (by omega), if_neg (by omega), if_neg (by omega), if_neg (by omega), if_neg (by omega), if_neg (by omega), if_neg (by omega)]; done), rfl, by rfl⟩
    · refine wp_tableIn (off := 86) (tgt := 100) G dX9_about_14 (by omega) (by omega) (by omega) rfl (by decide) ?_
      refine wp_aload_n G 0 dX9_about_100 rfl ?_
      refine wp_get G 1 cOk8 fX9_16 dX9_about_101 h0 rfl ?_
      refine wp_get G 5 cOk5 fX9_105 dX9_about_104 h2 rfl ?_
      refine wp_iload_n G 1 dX9_about_107 rfl ?_
      refine wp_iald (j := vv) G dX9_about_108 h7 rfl (by omega) (by decide) ?_
      have rrq5 := hO.g vv (by omega)
      exact wp_ireturn G hr dX9_about_109 ⟨by first | (rw [ansB, if_pos (by omega)]; done) | (rw [ansB, if_neg (by omega)]; simp; done) | (rw [ansB, if_neg (by omega), if_neg (by omega), if_neg (by omega), if_neg (by omega), if_neg (by omega), if_neg (by omega), if_neg (by omega), if_neg (by omega), if_neg (by omega)]; done), rfl, by rfl⟩
    · refine wp_tableIn (off := 96) (tgt := 110) G dX9_about_14 (by omega) (by omega) (by omega) rfl (by decide) ?_
      refine wp_aload_n G 0 dX9_about_110 rfl ?_
      refine wp_get G 1 cOk8 fX9_16 dX9_about_111 h0 rfl ?_
      refine wp_get G 6 cOk5 fX9_120 dX9_about_114 h2 rfl ?_
      refine wp_iload_n G 1 dX9_about_117 rfl ?_
      refine wp_iald (j := vv) G dX9_about_118 h8 rfl (by omega) (by decide) ?_
      have rrq6 := hO.t vv (by omega)
      exact wp_ireturn G hr dX9_about_119 ⟨by first | (rw [ansB, if_pos (by omega)]; done) | (rw [ansB, if_neg (by omega)]; simp; done) | (rw [ansB, if_neg (by omega), if_neg (by omega), if_neg (by omega), if_neg (by omega), if_neg (by omega), if_neg (by omega), if_neg (by omega), if_neg (by omega), if_neg (by omega)]; done), rfl, by rfl⟩
    · refine wp_tableIn (off := 106) (tgt := 120) G dX9_about_14 (by omega) (by omega) (by omega) rfl (by decide) ?_
      refine wp_aload_n G 0 dX9_about_120 rfl ?_
      refine wp_get G 1 cOk8 fX9_16 dX9_about_121 h0 rfl ?_
      refine wp_get G 7 cOk5 fX9_97 dX9_about_124 h2 rfl ?_
      refine wp_iload_n G 1 dX9_about_127 rfl ?_
      refine wp_zald (j := vv) G dX9_about_128 h9 rfl (by omega) (by decide) ?_
      have rrq7 := hO.b vv (by omega)
      refine wp_cSE (as := [zI ((q 6) vv)]) (rest := []) (hp2 := (nx, h, [])) G mX9_asNumber lX9_101 sX9_asNumber dX9_about_129 rfl rfl (Nat.le_of_ble_eq_true rfl) (rmx_ok hR (by decide) (by decide) (by decide) (by decide)) (t_X9_asNum2 (nx := nx) (v := (q 6 vv)) (by omega)) rfl ?_
      exact wp_ireturn G hr dX9_about_132 ⟨by first | (rw [ansB, if_pos (by omega)]; done) | (rw [ansB, if_neg (by omega)]; simp; done) | (rw [ansB, if_neg (by omega), if_neg (by omega), if_neg (by omega), if_neg (by omega), if_neg (by omega), if_neg (by omega), if_neg (by omega), if_neg (by omega), if_neg (by omega)]; done), rfl, by rfl⟩
    · refine wp_tableIn (off := 119) (tgt := 133) G dX9_about_14 (by omega) (by omega) (by omega) rfl (by decide) ?_
      obtain ⟨p, hp, ep⟩ := hO.2.2.2.2 vv (by omega)
      subst ep
      refine wp_aload_n G 0 dX9_about_133 rfl ?_
      refine wp_get G 1 cOk8 fX9_16 dX9_about_134 h0 rfl ?_
      refine wp_iload_n G 1 dX9_about_137 rfl ?_
      refine wp_cVE (b := 2) (ci := 5) (as := [zI ((o p : Nat) : Int)]) (rest := []) (hp2 := (nx, h, [])) G mX6_placeOf lX9_123 iX6_placeOf eX6_placeOf ⟨_, rfl, rfl⟩ dX9_about_138 h2 rfl rfl (Nat.le_of_ble_eq_true rfl) (rmx_ok hR (by decide) (by decide) (by decide) (by decide)) (t_X6_placeOf (nx := nx) (p := p) hQ hO hp) rfl ?_
      exact wp_ireturn G hr dX9_about_141 ⟨by rw [ansB, if_neg (by omega)]; simp; exact (plc_at hO hp).symm, rfl, by rfl⟩
    · refine wp_tableOut (tgt := 142) G dX9_about_14 (by omega) sq1 (by decide) ?_
      refine wp_bipush G dX9_about_142 (by decide) ?_
      exact wp_ireturn G hr dX9_about_144 ⟨by first | (rw [ansB, if_pos (by omega)]; done) | (rw [ansB, if_neg (by omega)]; simp; done) | (rw [ansB, if_neg (by omega), if_neg (by omega), if_neg (by omega), if_neg (by omega), if_neg (by omega), if_neg (by omega), if_neg (by omega), if_neg (by omega), if_neg (by omega)]; done), rfl, by rfl⟩
  · skip
    refine wp_iconst G dX9_about_11 ?_
    exact wp_ireturn G hr dX9_about_12 ⟨by first | (rw [ansB, if_pos (by omega)]; done) | (rw [ansB, if_neg (by omega)]; simp; done) | (rw [ansB, if_neg (by omega), if_neg (by omega), if_neg (by omega), if_neg (by omega), if_neg (by omega), if_neg (by omega), if_neg (by omega), if_neg (by omega), if_neg (by omega)]; done), rfl, by rfl⟩

set_option maxRecDepth 100000 in
set_option maxHeartbeats 4000000 in
theorem t_X10_about {nx : Nat} {h : Nat → Option PC} {n : Nat} {q : Nat → Nat → Int} {o : Nat → Nat} {fc : Nat} {hn : Nat} {ln : Nat} {ma : Int} {mb : Int} {st : Nat → Int} {v : Int} {w : Int} (hQ : isM h n q o fc hn ln ma mb st) (hO : okQ n q o) (hN : okN st) (ri_v : r32 v) (ri_w : r32 w) : Cx 2 (0, 0) yX10_about cX10_about 3 (some .int) [zR 64, zI v, zI w] nx h (Rt (zI (ansB n q o v w)) nx []) := by
  refine cx_of pnX10_about (Nat.le_of_ble_eq_true rfl) ?_
  intro K G hr hnm hR
  obtain ⟨h64, h65, h66, h67, h68, h69, h70, h71, h72, h73⟩ := id hQ
  have hn40 := hO.1
  obtain ⟨hN0, hN1, hN2, hN3, hN4⟩ := id hN
  show Wp K 3 (Mx K h (Rt (zI (ansB n q o v w)) nx []) (0, 0)) (0, 0) 0 [(0, zR 64), (1, zI v), (2, zI w)] [] (nx, h, [])
  refine wp_aload_n G 0 dX10_about_0 rfl ?_
  refine wp_iload_n G 1 dX10_about_1 rfl ?_
  refine wp_cVE (b := 64) (ci := 9) (as := [zI v]) (rest := []) (hp2 := (nx, h, [])) G mX10_isQuake lX10_126 iX10_isQuake eX10_isQuake ⟨_, rfl, rfl⟩ dX10_about_2 h64 rfl rfl (Nat.le_of_ble_eq_true rfl) (rmx_ok hR (by decide) (by decide) (by decide) (by decide)) (t_X10_isQuake (nx := nx) (v := v) hQ hO hN ri_v) rfl ?_
  refine wp_ifne_bt G dX10_about_5 (fun kq1 => ?_) (fun kq1 => ?_)
  · skip
    obtain ⟨vv, e_vv⟩ := Int.eq_ofNat_of_zero_le (show 0 ≤ v from (by omega))
    subst e_vv
    refine wp_iload_n G 2 dX10_about_10 rfl ?_
    have sq1 : w = 0 ∨ w = 1 ∨ w = 2 ∨ w = 3 ∨ w = 4 ∨ w = 5 ∨ w = 6 ∨ w = 7 ∨ (w < 0 ∨ 7 < w) := by omega
    rcases sq1 with rfl | rfl | rfl | rfl | rfl | rfl | rfl | rfl | sq1
    · refine wp_tableIn (off := 45) (tgt := 56) G dX10_about_11 (by omega) (by omega) (by omega) rfl (by decide) ?_
      refine wp_aload_n G 0 dX10_about_56 rfl ?_
      refine wp_get G 0 cOk9 fX10_7 dX10_about_57 h64 rfl ?_
      refine wp_iload_n G 1 dX10_about_60 rfl ?_
      refine wp_iald (j := vv) G dX10_about_61 h65 rfl (by omega) (by decide) ?_
      have rrq1 := hO.l vv (by omega)
      exact wp_ireturn G hr dX10_about_62 ⟨by first | (rw [ansB, if_pos (by omega)]; done) | (rw [ansB, if_neg (by omega)]; simp; done) | (rw [ansB, if_neg (by omega), if_neg (by omega), if_neg (by omega), if_neg (by omega), if_neg (by omega), if_neg (by omega), if_neg (by omega), if_neg (by omega), if_neg (by omega)]; done), rfl, by rfl⟩
    · refine wp_tableIn (off := 52) (tgt := 63) G dX10_about_11 (by omega) (by omega) (by omega) rfl (by decide) ?_
      refine wp_aload_n G 0 dX10_about_63 rfl ?_
      refine wp_get G 1 cOk9 fX10_13 dX10_about_64 h64 rfl ?_
      refine wp_iload_n G 1 dX10_about_67 rfl ?_
      refine wp_iald (j := vv) G dX10_about_68 h66 rfl (by omega) (by decide) ?_
      have rrq2 := hO.d vv (by omega)
      exact wp_ireturn G hr dX10_about_69 ⟨by first | (rw [ansB, if_pos (by omega)]; done) | (rw [ansB, if_neg (by omega)]; simp; done) | (rw [ansB, if_neg (by omega), if_neg (by omega), if_neg (by omega), if_neg (by omega), if_neg (by omega), if_neg (by omega), if_neg (by omega), if_neg (by omega), if_neg (by omega)]; done), rfl, by rfl⟩
    · refine wp_tableIn (off := 59) (tgt := 70) G dX10_about_11 (by omega) (by omega) (by omega) rfl (by decide) ?_
      refine wp_aload_n G 0 dX10_about_70 rfl ?_
      refine wp_get G 2 cOk9 fX10_16 dX10_about_71 h64 rfl ?_
      refine wp_iload_n G 1 dX10_about_74 rfl ?_
      refine wp_iald (j := vv) G dX10_about_75 h67 rfl (by omega) (by decide) ?_
      have rrq3 := hO.x vv (by omega)
      exact wp_ireturn G hr dX10_about_76 ⟨by first | (rw [ansB, if_pos (by omega)]; done) | (rw [ansB, if_neg (by omega)]; simp; done) | (rw [ansB, if_neg (by omega), if_neg (by omega), if_neg (by omega), if_neg (by omega), if_neg (by omega), if_neg (by omega), if_neg (by omega), if_neg (by omega), if_neg (by omega)]; done), rfl, by rfl⟩
    · refine wp_tableIn (off := 66) (tgt := 77) G dX10_about_11 (by omega) (by omega) (by omega) rfl (by decide) ?_
      refine wp_aload_n G 0 dX10_about_77 rfl ?_
      refine wp_get G 3 cOk9 fX10_19 dX10_about_78 h64 rfl ?_
      refine wp_iload_n G 1 dX10_about_81 rfl ?_
      refine wp_iald (j := vv) G dX10_about_82 h68 rfl (by omega) (by decide) ?_
      have rrq4 := hO.y vv (by omega)
      exact wp_ireturn G hr dX10_about_83 ⟨by first | (rw [ansB, if_pos (by omega)]; done) | (rw [ansB, if_neg (by omega)]; simp; done) | (rw [ansB, if_neg (by omega), if_neg (by omega), if_neg (by omega), if_neg (by omega), if_neg (by omega), if_neg (by omega), if_neg (by omega), if_neg (by omega), if_neg (by omega)]; done), rfl, by rfl⟩
    · refine wp_tableIn (off := 73) (tgt := 84) G dX10_about_11 (by omega) (by omega) (by omega) rfl (by decide) ?_
      refine wp_aload_n G 0 dX10_about_84 rfl ?_
      refine wp_get G 4 cOk9 fX10_22 dX10_about_85 h64 rfl ?_
      refine wp_iload_n G 1 dX10_about_88 rfl ?_
      refine wp_iald (j := vv) G dX10_about_89 h69 rfl (by omega) (by decide) ?_
      have rrq5 := hO.g vv (by omega)
      exact wp_ireturn G hr dX10_about_90 ⟨by first | (rw [ansB, if_pos (by omega)]; done) | (rw [ansB, if_neg (by omega)]; simp; done) | (rw [ansB, if_neg (by omega), if_neg (by omega), if_neg (by omega), if_neg (by omega), if_neg (by omega), if_neg (by omega), if_neg (by omega), if_neg (by omega), if_neg (by omega)]; done), rfl, by rfl⟩
    · refine wp_tableIn (off := 80) (tgt := 91) G dX10_about_11 (by omega) (by omega) (by omega) rfl (by decide) ?_
      refine wp_aload_n G 0 dX10_about_91 rfl ?_
      refine wp_get G 5 cOk9 fX10_25 dX10_about_92 h64 rfl ?_
      refine wp_iload_n G 1 dX10_about_95 rfl ?_
      refine wp_iald (j := vv) G dX10_about_96 h70 rfl (by omega) (by decide) ?_
      have rrq6 := hO.t vv (by omega)
      exact wp_ireturn G hr dX10_about_97 ⟨by first | (rw [ansB, if_pos (by omega)]; done) | (rw [ansB, if_neg (by omega)]; simp; done) | (rw [ansB, if_neg (by omega), if_neg (by omega), if_neg (by omega), if_neg (by omega), if_neg (by omega), if_neg (by omega), if_neg (by omega), if_neg (by omega), if_neg (by omega)]; done), rfl, by rfl⟩
    · refine wp_tableIn (off := 87) (tgt := 98) G dX10_about_11 (by omega) (by omega) (by omega) rfl (by decide) ?_
      refine wp_aload_n G 0 dX10_about_98 rfl ?_
      refine wp_get G 6 cOk9 fX10_28 dX10_about_99 h64 rfl ?_
      refine wp_iload_n G 1 dX10_about_102 rfl ?_
      refine wp_zald (j := vv) G dX10_about_103 h71 rfl (by omega) (by decide) ?_
      have rrq7 := hO.b vv (by omega)
      refine wp_if_eq G dX10_about_104 (by omega) (fun kq2 => ?_) (fun kq2 => ?_)
      · skip
        refine wp_iconst G dX10_about_111 ?_
        exact wp_ireturn G hr dX10_about_112 ⟨by rw [ansB, if_neg (by omega)]; simp; omega, rfl, by rfl⟩
      · skip
        refine wp_iconst G dX10_about_107 ?_
        refine wp_goto G dX10_about_108 ?_
        exact wp_ireturn G hr dX10_about_112 ⟨by rw [ansB, if_neg (by omega)]; simp; omega, rfl, by rfl⟩
    · refine wp_tableIn (off := 102) (tgt := 113) G dX10_about_11 (by omega) (by omega) (by omega) rfl (by decide) ?_
      obtain ⟨p, hp, ep⟩ := hO.2.2.2.2 vv (by omega)
      subst ep
      refine wp_aload_n G 0 dX10_about_113 rfl ?_
      refine wp_iload_n G 1 dX10_about_114 rfl ?_
      refine wp_cVE (b := 64) (ci := 9) (as := [zI ((o p : Nat) : Int)]) (rest := []) (hp2 := (nx, h, [])) G mX10_placeOf lX10_129 iX10_placeOf eX10_placeOf ⟨_, rfl, rfl⟩ dX10_about_115 h64 rfl rfl (Nat.le_of_ble_eq_true rfl) (rmx_ok hR (by decide) (by decide) (by decide) (by decide)) (t_X10_placeOf (nx := nx) (p := p) hQ hO hN hp) rfl ?_
      exact wp_ireturn G hr dX10_about_118 ⟨by rw [ansB, if_neg (by omega)]; simp; exact (plc_at hO hp).symm, rfl, by rfl⟩
    · refine wp_tableOut (tgt := 119) G dX10_about_11 (by omega) sq1 (by decide) ?_
      refine wp_bipush G dX10_about_119 (by decide) ?_
      exact wp_ireturn G hr dX10_about_121 ⟨by first | (rw [ansB, if_pos (by omega)]; done) | (rw [ansB, if_neg (by omega)]; simp; done) | (rw [ansB, if_neg (by omega), if_neg (by omega), if_neg (by omega), if_neg (by omega), if_neg (by omega), if_neg (by omega), if_neg (by omega), if_neg (by omega), if_neg (by omega)]; done), rfl, by rfl⟩
  · skip
    refine wp_iconst G dX10_about_8 ?_
    exact wp_ireturn G hr dX10_about_9 ⟨by first | (rw [ansB, if_pos (by omega)]; done) | (rw [ansB, if_neg (by omega)]; simp; done) | (rw [ansB, if_neg (by omega), if_neg (by omega), if_neg (by omega), if_neg (by omega), if_neg (by omega), if_neg (by omega), if_neg (by omega), if_neg (by omega), if_neg (by omega)]; done), rfl, by rfl⟩

