
set_option maxRecDepth 100000 in
set_option maxHeartbeats 4000000 in
theorem t_X0_howMany {nx : Nat} {h : Nat → Option PC} {n : Nat} {q : Nat → Nat → Int} {o : Nat → Nat} {ta : Nat → Int} {a : Int} {b : Int} {m : Int} (hQ : isQ h n q o) (hO : okQ n q o) (g34 : h 34 = some (oO 0 [zR 35])) (g35 : h 35 = some (oA 0 91 ta)) (ri_a : r32 a) (ri_b : r32 b) (ri_m : r32 m) : Cx 1 (0, 0) yX0_howMany cX0_howMany 7 (some .int) [zR 34, zR 2, zI a, zI b, zI m] nx h (Rt (zI (cntZ (fun j => cnd q a b j ∧ m ≤ q 4 j) n)) nx []) := by
  refine cx_of pnX0_howMany (Nat.le_of_ble_eq_true rfl) ?_
  intro K G hr hnm hR
  obtain ⟨h2, h3, h4, h5, h6, h7, h8, h9, h10⟩ := id hQ
  have hn40 := hO.1
  show Wp K 7 (Mx K h (Rt (zI (cntZ (fun j => cnd q a b j ∧ m ≤ q 4 j) n)) nx []) (0, 0)) (0, 0) 0 [(0, zR 34), (1, zR 2), (2, zI a), (3, zI b), (4, zI m)] [] (nx, h, [])
  refine wp_iconst G dX0_howMany_0 ?_
  refine wp_istore (lv' := [(5, zI 0), (0, zR 34), (1, zR 2), (2, zI a), (3, zI b), (4, zI m)]) G dX0_howMany_1 (by decide) rfl ?_
  refine wp_iconst G dX0_howMany_3 ?_
  refine wp_istore (lv' := [(6, zI 0), (5, zI 0), (0, zR 34), (1, zR 2), (2, zI a), (3, zI b), (4, zI m)]) G dX0_howMany_4 (by decide) rfl ?_
  refine wp_lv [2, 3, 4, 5, 6, 1, 0] rfl ?_
  suffices lp6 : ∀ (fu : Nat) (k : Nat) (v5 : Int) (v6 : Int), n - k < fu → (v5 = cntZ (fun j => cnd q a b j ∧ m ≤ q 4 j) k) → (v6 = ((k : Nat) : Int)) → (k ≤ n) → Wp K 7 (Mx K h (Rt (zI (cntZ (fun j => cnd q a b j ∧ m ≤ q 4 j) n)) nx []) (0, 0)) (0, 0) 6 [(0, zR 34), (1, zR 2), (2, zI a), (3, zI b), (4, zI m), (5, zI v5), (6, zI v6)] [] (nx, h, []) from lp6 _ 0 0 0 (Nat.lt_succ_self _) (by rfl) (by omega) (by omega)
  intro fu
  induction fu with
  | zero => intro k v5 v6 hm; exact absurd hm (Nat.not_lt_zero _)
  | succ fu ih6 =>
    intro k v5 v6 hm6 e5 e6 hi0
    subst e5
    subst e6
    refine wp_iload G 6 dX0_howMany_6 rfl ?_
    refine wp_aload_n G 1 dX0_howMany_8 rfl ?_
    refine wp_get G 0 cOk5 fX0_15 dX0_howMany_9 h2 rfl ?_
    refine wp_icmp_ge G dX0_howMany_12 (by omega) (by omega) (fun kq1 => ?_) (fun kq1 => ?_)
    · skip
      refine wp_iload G 5 dX0_howMany_47 rfl ?_
      exact wp_ireturn G hr dX0_howMany_49 ⟨by rw [show k = n by omega], rfl, by rfl⟩
    · skip
      refine wp_aload_n G 1 dX0_howMany_15 rfl ?_
      refine wp_iload G 6 dX0_howMany_16 rfl ?_
      refine wp_iload_n G 2 dX0_howMany_18 rfl ?_
      refine wp_iload_n G 3 dX0_howMany_19 rfl ?_
      refine wp_cVE (b := 2) (ci := 5) (as := [zI ((k : Nat) : Int), zI a, zI b]) (rest := []) (hp2 := (nx, h, [])) G mX6_isCounted lX0_21 iX6_isCounted eX6_isCounted ⟨_, rfl, rfl⟩ dX0_howMany_20 h2 rfl rfl (Nat.le_of_ble_eq_true rfl) (rmx_ok hR (by decide) (by decide) (by decide) (by decide)) (t_X6_isCounted (nx := nx) (j := k) (a := a) (b := b) hQ hO (by omega) ri_a ri_b) rfl ?_
      refine wp_ifeq_bt G dX0_howMany_23 (fun kq2 => ?_) (fun kq2 => ?_)
      · skip
        refine wp_iinc (lv' := [(6, zI (((k : Nat) : Int) + 1)), (0, zR 34), (1, zR 2), (2, zI a), (3, zI b), (4, zI m), (5, zI (cntZ (fun j => cnd q a b j ∧ m ≤ q 4 j) k))]) G 6 dX0_howMany_41 rfl (by decide) rfl ?_
        refine wp_goto G dX0_howMany_44 ?_
        refine wp_lv [1, 2, 3, 4, 5, 6, 0] rfl ?_
        exact ih6 (k + 1) (cntZ (fun j => cnd q a b j ∧ m ≤ q 4 j) k) (((k : Nat) : Int) + 1) (by omega) (by first | rw [cntZ_y (by first | assumption | exact ⟨by assumption, by omega⟩)] | rw [cntZ_n (by intro z; first | exact absurd z.1 (by assumption) | (have := z.2; omega))]) (by omega) (by omega)
      · skip
        refine wp_aload_n G 1 dX0_howMany_26 rfl ?_
        refine wp_get G 5 cOk5 fX0_25 dX0_howMany_27 h2 rfl ?_
        refine wp_iload G 6 dX0_howMany_30 rfl ?_
        refine wp_iald (j := k) G dX0_howMany_32 h7 rfl (by omega) (by decide) ?_
        have rrq1 := hO.g k (by omega)
        refine wp_iload G 4 dX0_howMany_33 rfl ?_
        refine wp_icmp_lt G dX0_howMany_35 (by omega) (by omega) (fun kq3 => ?_) (fun kq3 => ?_)
        · skip
          refine wp_iinc (lv' := [(6, zI (((k : Nat) : Int) + 1)), (0, zR 34), (1, zR 2), (2, zI a), (3, zI b), (4, zI m), (5, zI (cntZ (fun j => cnd q a b j ∧ m ≤ q 4 j) k))]) G 6 dX0_howMany_41 rfl (by decide) rfl ?_
          refine wp_goto G dX0_howMany_44 ?_
          refine wp_lv [1, 2, 3, 4, 5, 6, 0] rfl ?_
          exact ih6 (k + 1) (cntZ (fun j => cnd q a b j ∧ m ≤ q 4 j) k) (((k : Nat) : Int) + 1) (by omega) (by first | rw [cntZ_y (by first | assumption | exact ⟨by assumption, by omega⟩)] | rw [cntZ_n (by intro z; first | exact absurd z.1 (by assumption) | (have := z.2; omega))]) (by omega) (by omega)
        · skip
          refine wp_iinc (lv' := [(5, zI (cntZ (fun j => cnd q a b j ∧ m ≤ q 4 j) k + 1)), (0, zR 34), (1, zR 2), (2, zI a), (3, zI b), (4, zI m), (6, zI ((k : Nat) : Int))]) G 5 dX0_howMany_38 rfl (by decide) rfl ?_
          refine wp_iinc (lv' := [(6, zI (((k : Nat) : Int) + 1)), (5, zI (cntZ (fun j => cnd q a b j ∧ m ≤ q 4 j) k + 1)), (0, zR 34), (1, zR 2), (2, zI a), (3, zI b), (4, zI m)]) G 6 dX0_howMany_41 rfl (by decide) rfl ?_
          refine wp_goto G dX0_howMany_44 ?_
          refine wp_lv [2, 3, 4, 5, 6, 1, 0] rfl ?_
          exact ih6 (k + 1) (cntZ (fun j => cnd q a b j ∧ m ≤ q 4 j) k + 1) (((k : Nat) : Int) + 1) (by omega) (by first | rw [cntZ_y (by first | assumption | exact ⟨by assumption, by omega⟩)] | rw [cntZ_n (by intro z; first | exact absurd z.1 (by assumption) | (have := z.2; omega))]) (by omega) (by omega)

set_option maxRecDepth 100000 in
set_option maxHeartbeats 4000000 in
theorem t_X0_sumAbove {nx : Nat} {h : Nat → Option PC} {n : Nat} {q : Nat → Nat → Int} {o : Nat → Nat} {ta : Nat → Int} {a : Int} {b : Int} {m : Int} (hQ : isQ h n q o) (hO : okQ n q o) (g34 : h 34 = some (oO 0 [zR 35])) (g35 : h 35 = some (oA 0 91 ta)) (ri_a : r32 a) (ri_b : r32 b) (ri_m : r32 m) : Cx 1 (0, 0) yX0_sumAbove cX0_sumAbove 7 (some .int) [zR 34, zR 2, zI a, zI b, zI m] nx h (Rt (zI (sumZ (fun j => ifZ (cnd q a b j ∧ m ≤ q 4 j) (q 4 j - m) 0) n)) nx []) := by
  refine cx_of pnX0_sumAbove (Nat.le_of_ble_eq_true rfl) ?_
  intro K G hr hnm hR
  obtain ⟨h2, h3, h4, h5, h6, h7, h8, h9, h10⟩ := id hQ
  have hn40 := hO.1
  show Wp K 7 (Mx K h (Rt (zI (sumZ (fun j => ifZ (cnd q a b j ∧ m ≤ q 4 j) (q 4 j - m) 0) n)) nx []) (0, 0)) (0, 0) 0 [(0, zR 34), (1, zR 2), (2, zI a), (3, zI b), (4, zI m)] [] (nx, h, [])
  refine wp_iconst G dX0_sumAbove_0 ?_
  refine wp_istore (lv' := [(5, zI 0), (0, zR 34), (1, zR 2), (2, zI a), (3, zI b), (4, zI m)]) G dX0_sumAbove_1 (by decide) rfl ?_
  refine wp_iconst G dX0_sumAbove_3 ?_
  refine wp_istore (lv' := [(6, zI 0), (5, zI 0), (0, zR 34), (1, zR 2), (2, zI a), (3, zI b), (4, zI m)]) G dX0_sumAbove_4 (by decide) rfl ?_
  refine wp_lv [2, 3, 4, 5, 6, 1, 0] rfl ?_
  suffices lp6 : ∀ (fu : Nat) (k : Nat) (v5 : Int) (v6 : Int), n - k < fu → (v5 = sumZ (fun j => ifZ (cnd q a b j ∧ m ≤ q 4 j) (q 4 j - m) 0) k) → (v6 = ((k : Nat) : Int)) → (k ≤ n) → Wp K 7 (Mx K h (Rt (zI (sumZ (fun j => ifZ (cnd q a b j ∧ m ≤ q 4 j) (q 4 j - m) 0) n)) nx []) (0, 0)) (0, 0) 6 [(0, zR 34), (1, zR 2), (2, zI a), (3, zI b), (4, zI m), (5, zI v5), (6, zI v6)] [] (nx, h, []) from lp6 _ 0 0 0 (Nat.lt_succ_self _) (by rfl) (by omega) (by omega)
  intro fu
  induction fu with
  | zero => intro k v5 v6 hm; exact absurd hm (Nat.not_lt_zero _)
  | succ fu ih6 =>
    intro k v5 v6 hm6 e5 e6 hi0
    subst e5
    subst e6
    refine wp_iload G 6 dX0_sumAbove_6 rfl ?_
    refine wp_aload_n G 1 dX0_sumAbove_8 rfl ?_
    refine wp_get G 0 cOk5 fX0_15 dX0_sumAbove_9 h2 rfl ?_
    refine wp_icmp_ge G dX0_sumAbove_12 (by omega) (by omega) (fun kq1 => ?_) (fun kq1 => ?_)
    · skip
      refine wp_iload G 5 dX0_sumAbove_59 rfl ?_
      exact wp_ireturn G hr dX0_sumAbove_61 ⟨by rw [show k = n by omega], rfl, by rfl⟩
    · skip
      refine wp_aload_n G 1 dX0_sumAbove_15 rfl ?_
      refine wp_iload G 6 dX0_sumAbove_16 rfl ?_
      refine wp_iload_n G 2 dX0_sumAbove_18 rfl ?_
      refine wp_iload_n G 3 dX0_sumAbove_19 rfl ?_
      refine wp_cVE (b := 2) (ci := 5) (as := [zI ((k : Nat) : Int), zI a, zI b]) (rest := []) (hp2 := (nx, h, [])) G mX6_isCounted lX0_21 iX6_isCounted eX6_isCounted ⟨_, rfl, rfl⟩ dX0_sumAbove_20 h2 rfl rfl (Nat.le_of_ble_eq_true rfl) (rmx_ok hR (by decide) (by decide) (by decide) (by decide)) (t_X6_isCounted (nx := nx) (j := k) (a := a) (b := b) hQ hO (by omega) ri_a ri_b) rfl ?_
      refine wp_ifeq_bt G dX0_sumAbove_23 (fun kq2 => ?_) (fun kq2 => ?_)
      · skip
        refine wp_iinc (lv' := [(6, zI (((k : Nat) : Int) + 1)), (0, zR 34), (1, zR 2), (2, zI a), (3, zI b), (4, zI m), (5, zI (sumZ (fun j => ifZ (cnd q a b j ∧ m ≤ q 4 j) (q 4 j - m) 0) k))]) G 6 dX0_sumAbove_53 rfl (by decide) rfl ?_
        refine wp_goto G dX0_sumAbove_56 ?_
        refine wp_lv [1, 2, 3, 4, 5, 6, 0] rfl ?_
        exact ih6 (k + 1) (sumZ (fun j => ifZ (cnd q a b j ∧ m ≤ q 4 j) (q 4 j - m) 0) k) (((k : Nat) : Int) + 1) (by omega) (by first | (rw [sumZ, ifZ_y (by first | assumption | exact ⟨by assumption, by omega⟩)]) | (rw [sumZ, ifZ_n (by intro z; first | exact absurd z.1 (by assumption) | (have := z.2; omega))]; omega)) (by omega) (by omega)
      · skip
        refine wp_aload_n G 1 dX0_sumAbove_26 rfl ?_
        refine wp_get G 5 cOk5 fX0_25 dX0_sumAbove_27 h2 rfl ?_
        refine wp_iload G 6 dX0_sumAbove_30 rfl ?_
        refine wp_iald (j := k) G dX0_sumAbove_32 h7 rfl (by omega) (by decide) ?_
        have rrq1 := hO.g k (by omega)
        refine wp_iload G 4 dX0_sumAbove_33 rfl ?_
        refine wp_icmp_lt G dX0_sumAbove_35 (by omega) (by omega) (fun kq3 => ?_) (fun kq3 => ?_)
        · skip
          refine wp_iinc (lv' := [(6, zI (((k : Nat) : Int) + 1)), (0, zR 34), (1, zR 2), (2, zI a), (3, zI b), (4, zI m), (5, zI (sumZ (fun j => ifZ (cnd q a b j ∧ m ≤ q 4 j) (q 4 j - m) 0) k))]) G 6 dX0_sumAbove_53 rfl (by decide) rfl ?_
          refine wp_goto G dX0_sumAbove_56 ?_
          refine wp_lv [1, 2, 3, 4, 5, 6, 0] rfl ?_
          exact ih6 (k + 1) (sumZ (fun j => ifZ (cnd q a b j ∧ m ≤ q 4 j) (q 4 j - m) 0) k) (((k : Nat) : Int) + 1) (by omega) (by first | (rw [sumZ, ifZ_y (by first | assumption | exact ⟨by assumption, by omega⟩)]) | (rw [sumZ, ifZ_n (by intro z; first | exact absurd z.1 (by assumption) | (have := z.2; omega))]; omega)) (by omega) (by omega)
        · skip
          refine wp_iload G 5 dX0_sumAbove_38 rfl ?_
          refine wp_aload_n G 1 dX0_sumAbove_40 rfl ?_
          refine wp_get G 5 cOk5 fX0_25 dX0_sumAbove_41 h2 rfl ?_
          refine wp_iload G 6 dX0_sumAbove_44 rfl ?_
          refine wp_iald (j := k) G dX0_sumAbove_46 h7 rfl (by omega) (by decide) ?_
          have rrq2 := hO.g k (by omega)
          refine wp_iload G 4 dX0_sumAbove_47 rfl ?_
          refine wp_isub G dX0_sumAbove_49 ?_
          refine wp_iadd G dX0_sumAbove_50 ?_
          refine wp_istore (lv' := [(5, zI (sumZ (fun j => ifZ (cnd q a b j ∧ m ≤ q 4 j) (q 4 j - m) 0) k + (((q 4) k) - m))), (0, zR 34), (1, zR 2), (2, zI a), (3, zI b), (4, zI m), (6, zI ((k : Nat) : Int))]) G dX0_sumAbove_51 (by decide) rfl ?_
          refine wp_iinc (lv' := [(6, zI (((k : Nat) : Int) + 1)), (5, zI (sumZ (fun j => ifZ (cnd q a b j ∧ m ≤ q 4 j) (q 4 j - m) 0) k + (((q 4) k) - m))), (0, zR 34), (1, zR 2), (2, zI a), (3, zI b), (4, zI m)]) G 6 dX0_sumAbove_53 rfl (by decide) rfl ?_
          refine wp_goto G dX0_sumAbove_56 ?_
          refine wp_lv [2, 3, 4, 5, 6, 1, 0] rfl ?_
          exact ih6 (k + 1) (sumZ (fun j => ifZ (cnd q a b j ∧ m ≤ q 4 j) (q 4 j - m) 0) k + (((q 4) k) - m)) (((k : Nat) : Int) + 1) (by omega) (by first | (rw [sumZ, ifZ_y (by first | assumption | exact ⟨by assumption, by omega⟩)]) | (rw [sumZ, ifZ_n (by intro z; first | exact absurd z.1 (by assumption) | (have := z.2; omega))]; omega)) (by omega) (by omega)

set_option maxRecDepth 100000 in
set_option maxHeartbeats 4000000 in
theorem t_X5_greatestDivisor {nx : Nat} {h : Nat → Option PC} {a : Nat} {b : Nat} (ha : a < 1152921504606846976) (hb : b < 1152921504606846976) : Cx 0 (0, 0) yX5_greatestDivisor cX5_greatestDivisor 11 (some .long) [zJ ((a : Nat) : Int), zJ ((b : Nat) : Int)] nx h (Rt (zJ ((Nat.gcd a b : Nat) : Int)) nx []) := by
  refine cx_of pnX5_greatestDivisor (Nat.le_of_ble_eq_true rfl) ?_
  intro K G hr hnm hR
  show Wp K 11 (Mx K h (Rt (zJ ((Nat.gcd a b : Nat) : Int)) nx []) (0, 0)) (0, 0) 0 [(0, zJ ((a : Nat) : Int)), (2, zJ ((b : Nat) : Int))] [] (nx, h, [])
  refine wp_lload_n G 0 dX5_greatestDivisor_0 rfl ?_
  refine wp_lstore (lv' := [(4, zJ ((a : Nat) : Int)), (0, zJ ((a : Nat) : Int)), (2, zJ ((b : Nat) : Int))]) G dX5_greatestDivisor_1 (by decide) rfl ?_
  refine wp_lload_n G 2 dX5_greatestDivisor_3 rfl ?_
  refine wp_lstore (lv' := [(6, zJ ((b : Nat) : Int)), (4, zJ ((a : Nat) : Int)), (0, zJ ((a : Nat) : Int)), (2, zJ ((b : Nat) : Int))]) G dX5_greatestDivisor_4 (by decide) rfl ?_
  refine wp_iconst G dX5_greatestDivisor_6 ?_
  refine wp_istore (lv' := [(8, zI 0), (6, zJ ((b : Nat) : Int)), (4, zJ ((a : Nat) : Int)), (0, zJ ((a : Nat) : Int)), (2, zJ ((b : Nat) : Int))]) G dX5_greatestDivisor_7 (by decide) rfl ?_
  refine wp_lv [3, 4, 2, 1, 0] rfl ?_
  suffices lp9 : ∀ (fu : Nat) (t : Nat) (x : Nat) (y : Nat) (v4 : Int) (v6 : Int) (v8 : Int), 100 - t < fu → (v4 = ((x : Nat) : Int)) → (v6 = ((y : Nat) : Int)) → (v8 = ((t : Nat) : Int)) → (GJ a b t x y) → Wp K 11 (Mx K h (Rt (zJ ((Nat.gcd a b : Nat) : Int)) nx []) (0, 0)) (0, 0) 9 [(0, zJ ((a : Nat) : Int)), (2, zJ ((b : Nat) : Int)), (4, zJ v4), (6, zJ v6), (8, zI v8)] [] (nx, h, []) from lp9 _ 0 a b ((a : Nat) : Int) ((b : Nat) : Int) 0 (Nat.lt_succ_self _) (by omega) (by omega) (by omega) (by exact gj_0 ha hb)
  intro fu
  induction fu with
  | zero => intro t x y v4 v6 v8 hm; exact absurd hm (Nat.not_lt_zero _)
  | succ fu ih9 =>
    intro t x y v4 v6 v8 hm9 e4 e6 e8 hg
    subst e4
    subst e6
    subst e8
    have hg2 := hg.2.2.1
    have hg3 := hg.2.2.2.1
    have hg4 := hg.2.1
    refine wp_iload G 4 dX5_greatestDivisor_9 rfl ?_
    refine wp_bipush G dX5_greatestDivisor_11 (by decide) ?_
    refine wp_icmp_ge G dX5_greatestDivisor_13 (by omega) (by omega) (fun kq1 => ?_) (fun kq1 => ?_)
    · skip
      refine wp_lload G 2 dX5_greatestDivisor_44 rfl ?_
      exact wp_lreturn G hr dX5_greatestDivisor_46 ⟨by rw [gj_e hg (by omega)], rfl, by rfl⟩
    · skip
      refine wp_lload G 3 dX5_greatestDivisor_16 rfl ?_
      refine wp_lconst (z := 0) G dX5_greatestDivisor_18 (by decide) ?_
      refine wp_lcmp G (by omega) (by omega) dX5_greatestDivisor_19 ?_
      refine wp_if_eq G dX5_greatestDivisor_20 (cmpZ_r _ _) (fun kq2 => ?_) (fun kq2 => ?_)
      · have kq2 : ((y : Nat) : Int) = 0 := cmpZ_eq.mp kq2
        refine wp_lload G 2 dX5_greatestDivisor_44 rfl ?_
        exact wp_lreturn G hr dX5_greatestDivisor_46 ⟨by rw [gj_e hg (by omega)], rfl, by rfl⟩
      · have kq2 : ((y : Nat) : Int) ≠ 0 := fun z => kq2 (cmpZ_eq.mpr z)
        refine wp_lload G 2 dX5_greatestDivisor_23 rfl ?_
        refine wp_lload G 3 dX5_greatestDivisor_25 rfl ?_
        refine wp_lrem G (by omega) (by omega) (by omega) dX5_greatestDivisor_27 ?_
        refine wp_lstore (lv' := [(9, zJ (Int.tmod ((x : Nat) : Int) ((y : Nat) : Int))), (0, zJ ((a : Nat) : Int)), (2, zJ ((b : Nat) : Int)), (4, zJ ((x : Nat) : Int)), (6, zJ ((y : Nat) : Int)), (8, zI ((t : Nat) : Int))]) G dX5_greatestDivisor_28 (by decide) rfl ?_
        refine wp_lload G 4 dX5_greatestDivisor_30 rfl ?_
        refine wp_lstore (lv' := [(4, zJ ((y : Nat) : Int)), (9, zJ (Int.tmod ((x : Nat) : Int) ((y : Nat) : Int))), (0, zJ ((a : Nat) : Int)), (2, zJ ((b : Nat) : Int)), (6, zJ ((y : Nat) : Int)), (8, zI ((t : Nat) : Int))]) G dX5_greatestDivisor_32 (by decide) rfl ?_
        refine wp_lload G 1 dX5_greatestDivisor_34 rfl ?_
        refine wp_lstore (lv' := [(6, zJ (Int.tmod ((x : Nat) : Int) ((y : Nat) : Int))), (4, zJ ((y : Nat) : Int)), (9, zJ (Int.tmod ((x : Nat) : Int) ((y : Nat) : Int))), (0, zJ ((a : Nat) : Int)), (2, zJ ((b : Nat) : Int)), (8, zI ((t : Nat) : Int))]) G dX5_greatestDivisor_36 (by decide) rfl ?_
        refine wp_iinc (lv' := [(8, zI (((t : Nat) : Int) + 1)), (6, zJ (Int.tmod ((x : Nat) : Int) ((y : Nat) : Int))), (4, zJ ((y : Nat) : Int)), (9, zJ (Int.tmod ((x : Nat) : Int) ((y : Nat) : Int))), (0, zJ ((a : Nat) : Int)), (2, zJ ((b : Nat) : Int))]) G 5 dX5_greatestDivisor_38 rfl (by decide) rfl ?_
        refine wp_goto G dX5_greatestDivisor_41 ?_
        refine wp_lv [4, 5, 2, 1, 0] rfl ?_
        exact ih9 (t + 1) y (x % y) ((y : Nat) : Int) (Int.tmod ((x : Nat) : Int) ((y : Nat) : Int)) (((t : Nat) : Int) + 1) (by omega) (by omega) (by exact (Int.ofNat_tmod x y).symm) (by omega) (by exact gj_s hg (by omega) (by omega))

set_option maxRecDepth 100000 in
set_option maxHeartbeats 4000000 in
theorem t_X5_partOf {nx : Nat} {h : Nat → Option PC} {a : Nat} {b : Nat} {p : Int} (ha : a < 1152921504606846976) (hb : b < 1152921504606846976) (hb0 : 0 < b) (ri_p : r32 p) : Cx 1 (0, 0) yX5_partOf cX5_partOf 7 (some .long) [zJ ((a : Nat) : Int), zJ ((b : Nat) : Int), zI p] nx h (Rt (zJ (frc a b p)) nx []) := by
  refine cx_of pnX5_partOf (Nat.le_of_ble_eq_true rfl) ?_
  intro K G hr hnm hR
  have hg0 : 0 < Nat.gcd a b := Nat.gcd_pos_of_pos_right a hb0
  have hg1 : Nat.gcd a b ≤ b := Nat.gcd_le_right a hb0
  show Wp K 7 (Mx K h (Rt (zJ (frc a b p)) nx []) (0, 0)) (0, 0) 0 [(0, zJ ((a : Nat) : Int)), (2, zJ ((b : Nat) : Int)), (4, zI p)] [] (nx, h, [])
  refine wp_lload_n G 0 dX5_partOf_0 rfl ?_
  refine wp_lload_n G 1 dX5_partOf_1 rfl ?_
  refine wp_cSE (as := [zJ ((a : Nat) : Int), zJ ((b : Nat) : Int)]) (rest := []) (hp2 := (nx, h, [])) G mX5_greatestDivisor lX5_7 sX5_greatestDivisor dX5_partOf_2 rfl rfl (Nat.le_of_ble_eq_true rfl) (rmx_ok hR (by decide) (by decide) (by decide) (by decide)) (t_X5_greatestDivisor (nx := nx) (a := a) (b := b) ha hb) rfl ?_
  refine wp_lstore (lv' := [(5, zJ ((Nat.gcd a b : Nat) : Int)), (0, zJ ((a : Nat) : Int)), (2, zJ ((b : Nat) : Int)), (4, zI p)]) G dX5_partOf_5 (by decide) rfl ?_
  refine wp_lload_n G 1 dX5_partOf_7 rfl ?_
  refine wp_lconst (z := 0) G dX5_partOf_8 (by decide) ?_
  refine wp_lcmp G (by omega) (by omega) dX5_partOf_9 ?_
  refine wp_if_eq G dX5_partOf_10 (cmpZ_r _ _) (fun kq1 => ?_) (fun kq1 => ?_)
  · have kq1 : ((a : Nat) : Int) = 0 := cmpZ_eq.mp kq1
    refine wp_iload G 3 dX5_partOf_20 rfl ?_
    refine wp_if_ne G dX5_partOf_22 (by omega) (fun kq2 => ?_) (fun kq2 => ?_)
    · skip
      refine wp_lconst (z := 1) G dX5_partOf_29 (by decide) ?_
      exact wp_lreturn G hr dX5_partOf_30 ⟨by first | (exfalso; omega) | (have ea : a = 0 := (by omega); subst ea; unfold frc; first | (rw [if_pos (by omega)]; simp; done) | (rw [if_neg (by omega)]; simp [Nat.div_self hb0]; done)), rfl, by rfl⟩
    · skip
      refine wp_lconst (z := 0) G dX5_partOf_25 (by decide) ?_
      refine wp_goto G dX5_partOf_26 ?_
      exact wp_lreturn G hr dX5_partOf_30 ⟨by first | (exfalso; omega) | (have ea : a = 0 := (by omega); subst ea; unfold frc; first | (rw [if_pos (by omega)]; simp; done) | (rw [if_neg (by omega)]; simp [Nat.div_self hb0]; done)), rfl, by rfl⟩
  · have kq1 : ((a : Nat) : Int) ≠ 0 := fun z => kq1 (cmpZ_eq.mpr z)
    refine wp_lload G 0 dX5_partOf_13 rfl ?_
    refine wp_lconst (z := 0) G dX5_partOf_15 (by decide) ?_
    refine wp_lcmp G (by omega) (by omega) dX5_partOf_16 ?_
    refine wp_if_ne G dX5_partOf_17 (cmpZ_r _ _) (fun kq3 => ?_) (fun kq3 => ?_)
    · have kq3 : ((Nat.gcd a b : Nat) : Int) ≠ 0 := fun z => kq3 (cmpZ_eq.mpr z)
      refine wp_iload G 3 dX5_partOf_31 rfl ?_
      refine wp_if_ne G dX5_partOf_33 (by omega) (fun kq4 => ?_) (fun kq4 => ?_)
      · skip
        refine wp_lload_n G 2 dX5_partOf_43 rfl ?_
        refine wp_lload G 0 dX5_partOf_44 rfl ?_
        refine wp_ldiv G (by omega) (by omega) (by omega) (by omega) dX5_partOf_46 ?_
        exact wp_lreturn G hr dX5_partOf_47 ⟨by unfold frc; first | (rw [if_pos (by omega)]; rfl) | (rw [if_neg (by omega)]; rfl), rfl, by rfl⟩
      · skip
        refine wp_lload_n G 1 dX5_partOf_36 rfl ?_
        refine wp_lload G 0 dX5_partOf_37 rfl ?_
        refine wp_ldiv G (by omega) (by omega) (by omega) (by omega) dX5_partOf_39 ?_
        refine wp_goto G dX5_partOf_40 ?_
        exact wp_lreturn G hr dX5_partOf_47 ⟨by unfold frc; first | (rw [if_pos (by omega)]; rfl) | (rw [if_neg (by omega)]; rfl), rfl, by rfl⟩
    · have kq3 : ((Nat.gcd a b : Nat) : Int) = 0 := cmpZ_eq.mp kq3
      refine wp_iload G 3 dX5_partOf_20 rfl ?_
      refine wp_if_ne G dX5_partOf_22 (by omega) (fun kq5 => ?_) (fun kq5 => ?_)
      · skip
        refine wp_lconst (z := 1) G dX5_partOf_29 (by decide) ?_
        exact wp_lreturn G hr dX5_partOf_30 ⟨by first | (exfalso; omega) | (have ea : a = 0 := (by omega); subst ea; unfold frc; first | (rw [if_pos (by omega)]; simp; done) | (rw [if_neg (by omega)]; simp [Nat.div_self hb0]; done)), rfl, by rfl⟩
      · skip
        refine wp_lconst (z := 0) G dX5_partOf_25 (by decide) ?_
        refine wp_goto G dX5_partOf_26 ?_
        exact wp_lreturn G hr dX5_partOf_30 ⟨by first | (exfalso; omega) | (have ea : a = 0 := (by omega); subst ea; unfold frc; first | (rw [if_pos (by omega)]; simp; done) | (rw [if_neg (by omega)]; simp [Nat.div_self hb0]; done)), rfl, by rfl⟩

set_option maxRecDepth 100000 in
set_option maxHeartbeats 4000000 in
theorem t_X5_choose {nx : Nat} {h : Nat → Option PC} {n : Nat} {k : Int} (hn : n ≤ 40) (ri_k : r32 k) : Cx 0 (0, 0) yX5_choose cX5_choose 5 (some .long) [zI ((n : Nat) : Int), zI k] nx h (Rt (zJ (chI n k)) nx []) := by
  refine cx_of pnX5_choose (Nat.le_of_ble_eq_true rfl) ?_
  intro K G hr hnm hR
  show Wp K 5 (Mx K h (Rt (zJ (chI n k)) nx []) (0, 0)) (0, 0) 0 [(0, zI ((n : Nat) : Int)), (1, zI k)] [] (nx, h, [])
  refine wp_iload_n G 1 dX5_choose_0 rfl ?_
  refine wp_if_lt G dX5_choose_1 (by omega) (fun kq1 => ?_) (fun kq1 => ?_)
  · skip
    refine wp_lconst (z := 0) G dX5_choose_9 (by decide) ?_
    exact wp_lreturn G hr dX5_choose_10 ⟨by rw [chI_out (by omega)], rfl, by rfl⟩
  · skip
    refine wp_iload_n G 1 dX5_choose_4 rfl ?_
    refine wp_iload_n G 0 dX5_choose_5 rfl ?_
    refine wp_icmp_le G dX5_choose_6 (by omega) (by omega) (fun kq2 => ?_) (fun kq2 => ?_)
    · skip
      obtain ⟨kk, e_kk⟩ := Int.eq_ofNat_of_zero_le (show 0 ≤ k from (by omega))
      subst e_kk
      refine wp_lconst (z := 1) G dX5_choose_11 (by decide) ?_
      refine wp_lstore_n (lv' := [(2, zJ 1), (0, zI ((n : Nat) : Int)), (1, zI ((kk : Nat) : Int))]) G dX5_choose_12 (by decide) rfl ?_
      refine wp_iconst G dX5_choose_13 ?_
      refine wp_istore (lv' := [(4, zI 1), (2, zJ 1), (0, zI ((n : Nat) : Int)), (1, zI ((kk : Nat) : Int))]) G dX5_choose_14 (by decide) rfl ?_
      refine wp_lv [2, 3, 1, 0] rfl ?_
      suffices lp16 : ∀ (fu : Nat) (i : Nat) (v2 : Int) (v4 : Int), kk - i < fu → (v2 = ((chL n kk i : Nat) : Int)) → (v4 = ((i + 1 : Nat) : Int)) → (i ≤ kk) → Wp K 5 (Mx K h (Rt (zJ (chI n ((kk : Nat) : Int))) nx []) (0, 0)) (0, 0) 16 [(0, zI ((n : Nat) : Int)), (1, zI ((kk : Nat) : Int)), (2, zJ v2), (4, zI v4)] [] (nx, h, []) from lp16 _ 0 1 1 (Nat.lt_succ_self _) (by rfl) (by omega) (by omega)
      intro fu
      induction fu with
      | zero => intro i v2 v4 hm; exact absurd hm (Nat.not_lt_zero _)
      | succ fu ih16 =>
        intro i v2 v4 hm16 e2 e4 hi0
        subst e2
        subst e4
        refine wp_iload G 3 dX5_choose_16 rfl ?_
        refine wp_iload_n G 1 dX5_choose_18 rfl ?_
        refine wp_icmp_gt G dX5_choose_19 (by omega) (by omega) (fun kq3 => ?_) (fun kq3 => ?_)
        · skip
          refine wp_lload_n G 2 dX5_choose_42 rfl ?_
          exact wp_lreturn G hr dX5_choose_43 ⟨by rw [chI_in (by omega), show i = kk by omega], rfl, by rfl⟩
        · skip
          refine wp_lload_n G 2 dX5_choose_22 rfl ?_
          refine wp_iload_n G 0 dX5_choose_23 rfl ?_
          refine wp_iload_n G 1 dX5_choose_24 rfl ?_
          refine wp_isub G dX5_choose_25 ?_
          refine wp_iload G 3 dX5_choose_26 rfl ?_
          refine wp_iadd G dX5_choose_28 ?_
          refine wp_i2l G (by omega) dX5_choose_29 ?_
          refine wp_lmul G dX5_choose_30 ?_
          refine wp_iload G 3 dX5_choose_31 rfl ?_
          refine wp_i2l G (by omega) dX5_choose_33 ?_
          have hb34 := chL_r (n := n) (k := kk) (i := i) hn (by omega) (by omega)
          refine wp_ldiv G hb34.1 (by omega) hb34.2 (by omega) dX5_choose_34 ?_
          refine wp_lstore_n (lv' := [(2, zJ ((((chL n kk i : Nat) : Int) * ((((n : Nat) : Int) - ((kk : Nat) : Int)) + ((i + 1 : Nat) : Int))) / ((i + 1 : Nat) : Int))), (0, zI ((n : Nat) : Int)), (1, zI ((kk : Nat) : Int)), (4, zI ((i + 1 : Nat) : Int))]) G dX5_choose_35 (by decide) rfl ?_
          refine wp_iinc (lv' := [(4, zI (((i + 1 : Nat) : Int) + 1)), (2, zJ ((((chL n kk i : Nat) : Int) * ((((n : Nat) : Int) - ((kk : Nat) : Int)) + ((i + 1 : Nat) : Int))) / ((i + 1 : Nat) : Int))), (0, zI ((n : Nat) : Int)), (1, zI ((kk : Nat) : Int))]) G 3 dX5_choose_36 rfl (by decide) rfl ?_
          refine wp_goto G dX5_choose_39 ?_
          refine wp_lv [2, 3, 1, 0] rfl ?_
          exact ih16 (i + 1) ((((chL n kk i : Nat) : Int) * ((((n : Nat) : Int) - ((kk : Nat) : Int)) + ((i + 1 : Nat) : Int))) / ((i + 1 : Nat) : Int)) (((i + 1 : Nat) : Int) + 1) (by omega) (by exact chL_s (by omega)) (by omega) (by omega)
    · skip
      refine wp_lconst (z := 0) G dX5_choose_9 (by decide) ?_
      exact wp_lreturn G hr dX5_choose_10 ⟨by rw [chI_out (by omega)], rfl, by rfl⟩

set_option maxRecDepth 100000 in
set_option maxHeartbeats 4000000 in
theorem t_X5_power {nx : Nat} {h : Nat → Option PC} {b : Int} {k : Nat} (ri_b : r32 b) (hk : k ≤ 100) : Cx 0 (0, 0) yX5_power cX5_power 5 (some .long) [zI b, zI ((k : Nat) : Int)] nx h (Rt (zJ (b ^ k)) nx []) := by
  refine cx_of pnX5_power (Nat.le_of_ble_eq_true rfl) ?_
  intro K G hr hnm hR
  show Wp K 5 (Mx K h (Rt (zJ (b ^ k)) nx []) (0, 0)) (0, 0) 0 [(0, zI b), (1, zI ((k : Nat) : Int))] [] (nx, h, [])
  refine wp_lconst (z := 1) G dX5_power_0 (by decide) ?_
  refine wp_lstore_n (lv' := [(2, zJ 1), (0, zI b), (1, zI ((k : Nat) : Int))]) G dX5_power_1 (by decide) rfl ?_
  refine wp_iconst G dX5_power_2 ?_
  refine wp_istore (lv' := [(4, zI 0), (2, zJ 1), (0, zI b), (1, zI ((k : Nat) : Int))]) G dX5_power_3 (by decide) rfl ?_
  refine wp_lv [2, 3, 1, 0] rfl ?_
  suffices lp5 : ∀ (fu : Nat) (i : Nat) (v2 : Int) (v4 : Int), k - i < fu → (v2 = b ^ i) → (v4 = ((i : Nat) : Int)) → (i ≤ k) → Wp K 5 (Mx K h (Rt (zJ (b ^ k)) nx []) (0, 0)) (0, 0) 5 [(0, zI b), (1, zI ((k : Nat) : Int)), (2, zJ v2), (4, zI v4)] [] (nx, h, []) from lp5 _ 0 1 0 (Nat.lt_succ_self _) (by exact (Int.pow_zero b).symm) (by omega) (by omega)
  intro fu
  induction fu with
  | zero => intro i v2 v4 hm; exact absurd hm (Nat.not_lt_zero _)
  | succ fu ih5 =>
    intro i v2 v4 hm5 e2 e4 hi0
    subst e2
    subst e4
    refine wp_iload G 3 dX5_power_5 rfl ?_
    refine wp_iload_n G 1 dX5_power_7 rfl ?_
    refine wp_icmp_ge G dX5_power_8 (by omega) (by omega) (fun kq1 => ?_) (fun kq1 => ?_)
    · skip
      refine wp_lload_n G 2 dX5_power_22 rfl ?_
      exact wp_lreturn G hr dX5_power_23 ⟨by rw [show i = k by omega], rfl, by rfl⟩
    · skip
      refine wp_lload_n G 2 dX5_power_11 rfl ?_
      refine wp_iload_n G 0 dX5_power_12 rfl ?_
      refine wp_i2l G (by omega) dX5_power_13 ?_
      refine wp_lmul G dX5_power_14 ?_
      refine wp_lstore_n (lv' := [(2, zJ (b ^ i * b)), (0, zI b), (1, zI ((k : Nat) : Int)), (4, zI ((i : Nat) : Int))]) G dX5_power_15 (by decide) rfl ?_
      refine wp_iinc (lv' := [(4, zI (((i : Nat) : Int) + 1)), (2, zJ (b ^ i * b)), (0, zI b), (1, zI ((k : Nat) : Int))]) G 3 dX5_power_16 rfl (by decide) rfl ?_
      refine wp_goto G dX5_power_19 ?_
      refine wp_lv [2, 3, 1, 0] rfl ?_
      exact ih5 (i + 1) (b ^ i * b) (((i : Nat) : Int) + 1) (by omega) (by exact (pow_step b i).symm) (by omega) (by omega)

set_option maxRecDepth 100000 in
set_option maxHeartbeats 4000000 in
theorem t_X5_waysToDeal {nx : Nat} {h : Nat → Option PC} {A : Nat} {B : Nat} {g : Nat} {c : Nat} (h40 : A + B ≤ 40) (hg : g ≤ A + B) (hc : c ≤ A) (hcg : c ≤ g) : Cx 1 (0, 0) yX5_waysToDeal cX5_waysToDeal 8 (some .long) [zI ((A : Nat) : Int), zI ((B : Nat) : Int), zI ((g : Nat) : Int), zI ((c : Nat) : Int)] nx h (Rt (zJ (sumZ (fun j => chI g (((c + j : Nat)) : Int) * chI (A + B - g) (((A : Nat) : Int) - (((c + j : Nat)) : Int))) (g + 1 - c))) nx []) := by
  refine cx_of pnX5_waysToDeal (Nat.le_of_ble_eq_true rfl) ?_
  intro K G hr hnm hR
  show Wp K 8 (Mx K h (Rt (zJ (sumZ (fun j => chI g (((c + j : Nat)) : Int) * chI (A + B - g) (((A : Nat) : Int) - (((c + j : Nat)) : Int))) (g + 1 - c))) nx []) (0, 0)) (0, 0) 0 [(0, zI ((A : Nat) : Int)), (1, zI ((B : Nat) : Int)), (2, zI ((g : Nat) : Int)), (3, zI ((c : Nat) : Int))] [] (nx, h, [])
  refine wp_iload_n G 0 dX5_waysToDeal_0 rfl ?_
  refine wp_iload_n G 1 dX5_waysToDeal_1 rfl ?_
  refine wp_iadd G dX5_waysToDeal_2 ?_
  refine wp_iload_n G 2 dX5_waysToDeal_3 rfl ?_
  refine wp_isub G dX5_waysToDeal_4 ?_
  rw [show (((((A : Nat) : Int) + ((B : Nat) : Int)) - ((g : Nat) : Int)) : Int) = ((A + B - g : Nat) : Int) by omega]
  refine wp_istore (lv' := [(4, zI ((A + B - g : Nat) : Int)), (0, zI ((A : Nat) : Int)), (1, zI ((B : Nat) : Int)), (2, zI ((g : Nat) : Int)), (3, zI ((c : Nat) : Int))]) G dX5_waysToDeal_5 (by decide) rfl ?_
  refine wp_lconst (z := 0) G dX5_waysToDeal_7 (by decide) ?_
  refine wp_lstore (lv' := [(5, zJ 0), (4, zI ((A + B - g : Nat) : Int)), (0, zI ((A : Nat) : Int)), (1, zI ((B : Nat) : Int)), (2, zI ((g : Nat) : Int)), (3, zI ((c : Nat) : Int))]) G dX5_waysToDeal_8 (by decide) rfl ?_
  refine wp_iload_n G 5 dX5_waysToDeal_10 rfl ?_
  refine wp_istore (lv' := [(7, zI ((c : Nat) : Int)), (5, zJ 0), (4, zI ((A + B - g : Nat) : Int)), (0, zI ((A : Nat) : Int)), (1, zI ((B : Nat) : Int)), (2, zI ((g : Nat) : Int)), (3, zI ((c : Nat) : Int))]) G dX5_waysToDeal_11 (by decide) rfl ?_
  refine wp_lv [3, 4, 5, 6, 2, 1, 0] rfl ?_
  suffices lp13 : ∀ (fu : Nat) (i : Nat) (v5 : Int) (v7 : Int), g + 1 - c - i < fu → (v5 = sumZ (fun j => chI g (((c + j : Nat)) : Int) * chI (A + B - g) (((A : Nat) : Int) - (((c + j : Nat)) : Int))) i) → (v7 = ((c + i : Nat) : Int)) → (i ≤ g + 1 - c) → Wp K 8 (Mx K h (Rt (zJ (sumZ (fun j => chI g (((c + j : Nat)) : Int) * chI (A + B - g) (((A : Nat) : Int) - (((c + j : Nat)) : Int))) (g + 1 - c))) nx []) (0, 0)) (0, 0) 13 [(0, zI ((A : Nat) : Int)), (1, zI ((B : Nat) : Int)), (2, zI ((g : Nat) : Int)), (3, zI ((c : Nat) : Int)), (4, zI ((A + B - g : Nat) : Int)), (5, zJ v5), (7, zI v7)] [] (nx, h, []) from lp13 _ 0 0 ((c : Nat) : Int) (Nat.lt_succ_self _) (by rfl) (by omega) (by omega)
  intro fu
  induction fu with
  | zero => intro i v5 v7 hm; exact absurd hm (Nat.not_lt_zero _)
  | succ fu ih13 =>
    intro i v5 v7 hm13 e5 e7 hi0
    subst e5
    subst e7
    refine wp_iload G 6 dX5_waysToDeal_13 rfl ?_
    refine wp_iload_n G 2 dX5_waysToDeal_15 rfl ?_
    refine wp_icmp_gt G dX5_waysToDeal_16 (by omega) (by omega) (fun kq1 => ?_) (fun kq1 => ?_)
    · skip
      refine wp_lload G 5 dX5_waysToDeal_52 rfl ?_
      exact wp_lreturn G hr dX5_waysToDeal_54 ⟨by first | rw [show i = g + 1 - c by omega] | (rw [sumZ_0 (a := i) (g + 1 - c) (by omega) (fun j h1 h2 => by rw [chI_out (n := A + B - g) (by omega)]; simp)]), rfl, by rfl⟩
    · skip
      refine wp_iload G 6 dX5_waysToDeal_19 rfl ?_
      refine wp_iload_n G 0 dX5_waysToDeal_21 rfl ?_
      refine wp_icmp_gt G dX5_waysToDeal_22 (by omega) (by omega) (fun kq2 => ?_) (fun kq2 => ?_)
      · skip
        refine wp_lload G 5 dX5_waysToDeal_52 rfl ?_
        exact wp_lreturn G hr dX5_waysToDeal_54 ⟨by first | rw [show i = g + 1 - c by omega] | (rw [sumZ_0 (a := i) (g + 1 - c) (by omega) (fun j h1 h2 => by rw [chI_out (n := A + B - g) (by omega)]; simp)]), rfl, by rfl⟩
      · skip
        refine wp_lload G 5 dX5_waysToDeal_25 rfl ?_
        refine wp_iload_n G 2 dX5_waysToDeal_27 rfl ?_
        refine wp_iload G 6 dX5_waysToDeal_28 rfl ?_
        refine wp_cSE (as := [zI ((g : Nat) : Int), zI ((c + i : Nat) : Int)]) (rest := [zJ (sumZ (fun j => chI g (((c + j : Nat)) : Int) * chI (A + B - g) (((A : Nat) : Int) - (((c + j : Nat)) : Int))) i)]) (hp2 := (nx, h, [])) G mX5_choose lX5_13 sX5_choose dX5_waysToDeal_30 rfl rfl (Nat.le_of_ble_eq_true rfl) (rmx_ok hR (by decide) (by decide) (by decide) (by decide)) (t_X5_choose (nx := nx) (n := g) (k := ((c + i : Nat) : Int)) (by omega) (by omega)) rfl ?_
        refine wp_iload G 4 dX5_waysToDeal_33 rfl ?_
        refine wp_iload_n G 0 dX5_waysToDeal_35 rfl ?_
        refine wp_iload G 6 dX5_waysToDeal_36 rfl ?_
        refine wp_isub G dX5_waysToDeal_38 ?_
        refine wp_cSE (as := [zI ((A + B - g : Nat) : Int), zI (((A : Nat) : Int) - ((c + i : Nat) : Int))]) (rest := [zJ (chI g ((c + i : Nat) : Int)), zJ (sumZ (fun j => chI g (((c + j : Nat)) : Int) * chI (A + B - g) (((A : Nat) : Int) - (((c + j : Nat)) : Int))) i)]) (hp2 := (nx, h, [])) G mX5_choose lX5_13 sX5_choose dX5_waysToDeal_39 rfl rfl (Nat.le_of_ble_eq_true rfl) (rmx_ok hR (by decide) (by decide) (by decide) (by decide)) (t_X5_choose (nx := nx) (n := (A + B - g)) (k := (((A : Nat) : Int) - ((c + i : Nat) : Int))) (by omega) (by omega)) rfl ?_
        refine wp_lmul G dX5_waysToDeal_42 ?_
        refine wp_ladd G dX5_waysToDeal_43 ?_
        refine wp_lstore (lv' := [(5, zJ (sumZ (fun j => chI g (((c + j : Nat)) : Int) * chI (A + B - g) (((A : Nat) : Int) - (((c + j : Nat)) : Int))) i + (chI g ((c + i : Nat) : Int) * chI (A + B - g) (((A : Nat) : Int) - ((c + i : Nat) : Int))))), (0, zI ((A : Nat) : Int)), (1, zI ((B : Nat) : Int)), (2, zI ((g : Nat) : Int)), (3, zI ((c : Nat) : Int)), (4, zI ((A + B - g : Nat) : Int)), (7, zI ((c + i : Nat) : Int))]) G dX5_waysToDeal_44 (by decide) rfl ?_
        refine wp_iinc (lv' := [(7, zI (((c + i : Nat) : Int) + 1)), (5, zJ (sumZ (fun j => chI g (((c + j : Nat)) : Int) * chI (A + B - g) (((A : Nat) : Int) - (((c + j : Nat)) : Int))) i + (chI g ((c + i : Nat) : Int) * chI (A + B - g) (((A : Nat) : Int) - ((c + i : Nat) : Int))))), (0, zI ((A : Nat) : Int)), (1, zI ((B : Nat) : Int)), (2, zI ((g : Nat) : Int)), (3, zI ((c : Nat) : Int)), (4, zI ((A + B - g : Nat) : Int))]) G 6 dX5_waysToDeal_46 rfl (by decide) rfl ?_
        refine wp_goto G dX5_waysToDeal_49 ?_
        refine wp_lv [2, 3, 4, 5, 6, 1, 0] rfl ?_
        exact ih13 (i + 1) (sumZ (fun j => chI g (((c + j : Nat)) : Int) * chI (A + B - g) (((A : Nat) : Int) - (((c + j : Nat)) : Int))) i + (chI g ((c + i : Nat) : Int) * chI (A + B - g) (((A : Nat) : Int) - ((c + i : Nat) : Int)))) (((c + i : Nat) : Int) + 1) (by omega) (by rfl) (by omega) (by omega)

set_option maxRecDepth 100000 in
set_option maxHeartbeats 4000000 in
theorem t_X5_waysForFew {nx : Nat} {h : Nat → Option PC} {a : Nat} {n : Int} {w : Int} {t : Int} (ha : a ≤ 8) (ri_n : r32 n) (hw : 1 ≤ w ∧ w < t) (ht : t ≤ 100) : Cx 1 (0, 0) yX5_waysForFew cX5_waysForFew 7 (some .long) [zI ((a : Nat) : Int), zI n, zI w, zI t] nx h (Rt (zJ (sumZ (fun i => ifZ (((i : Nat) : Int) ≤ n) (chI a ((i : Nat) : Int) * w ^ i * (t - w) ^ (a - i)) 0) (a + 1))) nx []) := by
  refine cx_of pnX5_waysForFew (Nat.le_of_ble_eq_true rfl) ?_
  intro K G hr hnm hR
  show Wp K 7 (Mx K h (Rt (zJ (sumZ (fun i => ifZ (((i : Nat) : Int) ≤ n) (chI a ((i : Nat) : Int) * w ^ i * (t - w) ^ (a - i)) 0) (a + 1))) nx []) (0, 0)) (0, 0) 0 [(0, zI ((a : Nat) : Int)), (1, zI n), (2, zI w), (3, zI t)] [] (nx, h, [])
  refine wp_lconst (z := 0) G dX5_waysForFew_0 (by decide) ?_
  refine wp_lstore (lv' := [(4, zJ 0), (0, zI ((a : Nat) : Int)), (1, zI n), (2, zI w), (3, zI t)]) G dX5_waysForFew_1 (by decide) rfl ?_
  refine wp_iconst G dX5_waysForFew_3 ?_
  refine wp_istore (lv' := [(6, zI 0), (4, zJ 0), (0, zI ((a : Nat) : Int)), (1, zI n), (2, zI w), (3, zI t)]) G dX5_waysForFew_4 (by decide) rfl ?_
  refine wp_lv [2, 3, 4, 5, 1, 0] rfl ?_
  suffices lp6 : ∀ (fu : Nat) (i : Nat) (v4 : Int) (v6 : Int), a + 1 - i < fu → (v4 = sumZ (fun i => ifZ (((i : Nat) : Int) ≤ n) (chI a ((i : Nat) : Int) * w ^ i * (t - w) ^ (a - i)) 0) i) → (v6 = ((i : Nat) : Int)) → (i ≤ a + 1) → Wp K 7 (Mx K h (Rt (zJ (sumZ (fun i => ifZ (((i : Nat) : Int) ≤ n) (chI a ((i : Nat) : Int) * w ^ i * (t - w) ^ (a - i)) 0) (a + 1))) nx []) (0, 0)) (0, 0) 6 [(0, zI ((a : Nat) : Int)), (1, zI n), (2, zI w), (3, zI t), (4, zJ v4), (6, zI v6)] [] (nx, h, []) from lp6 _ 0 0 0 (Nat.lt_succ_self _) (by rfl) (by omega) (by omega)
  intro fu
  induction fu with
  | zero => intro i v4 v6 hm; exact absurd hm (Nat.not_lt_zero _)
  | succ fu ih6 =>
    intro i v4 v6 hm6 e4 e6 hi0
    subst e4
    subst e6
    refine wp_iload G 5 dX5_waysForFew_6 rfl ?_
    refine wp_iload_n G 1 dX5_waysForFew_8 rfl ?_
    refine wp_icmp_gt G dX5_waysForFew_9 (by omega) (by omega) (fun kq1 => ?_) (fun kq1 => ?_)
    · skip
      refine wp_lload G 4 dX5_waysForFew_53 rfl ?_
      exact wp_lreturn G hr dX5_waysForFew_55 ⟨by first | rw [show i = a + 1 by omega] | (rw [sumZ_0 (a := i) (a + 1) (by omega) (fun j h1 h2 => by rw [ifZ_n (by omega)])]), rfl, by rfl⟩
    · skip
      refine wp_iload G 5 dX5_waysForFew_12 rfl ?_
      refine wp_iload_n G 0 dX5_waysForFew_14 rfl ?_
      refine wp_icmp_gt G dX5_waysForFew_15 (by omega) (by omega) (fun kq2 => ?_) (fun kq2 => ?_)
      · skip
        refine wp_lload G 4 dX5_waysForFew_53 rfl ?_
        exact wp_lreturn G hr dX5_waysForFew_55 ⟨by first | rw [show i = a + 1 by omega] | (rw [sumZ_0 (a := i) (a + 1) (by omega) (fun j h1 h2 => by rw [ifZ_n (by omega)])]), rfl, by rfl⟩
      · skip
        refine wp_lload G 4 dX5_waysForFew_18 rfl ?_
        refine wp_iload_n G 0 dX5_waysForFew_20 rfl ?_
        refine wp_iload G 5 dX5_waysForFew_21 rfl ?_
        refine wp_cSE (as := [zI ((a : Nat) : Int), zI ((i : Nat) : Int)]) (rest := [zJ (sumZ (fun i => ifZ (((i : Nat) : Int) ≤ n) (chI a ((i : Nat) : Int) * w ^ i * (t - w) ^ (a - i)) 0) i)]) (hp2 := (nx, h, [])) G mX5_choose lX5_13 sX5_choose dX5_waysForFew_23 rfl rfl (Nat.le_of_ble_eq_true rfl) (rmx_ok hR (by decide) (by decide) (by decide) (by decide)) (t_X5_choose (nx := nx) (n := a) (k := ((i : Nat) : Int)) (by omega) (by omega)) rfl ?_
        refine wp_iload_n G 2 dX5_waysForFew_26 rfl ?_
        refine wp_iload G 5 dX5_waysForFew_27 rfl ?_
        refine wp_cSE (as := [zI w, zI ((i : Nat) : Int)]) (rest := [zJ (chI a ((i : Nat) : Int)), zJ (sumZ (fun i => ifZ (((i : Nat) : Int) ≤ n) (chI a ((i : Nat) : Int) * w ^ i * (t - w) ^ (a - i)) 0) i)]) (hp2 := (nx, h, [])) G mX5_power lX5_17 sX5_power dX5_waysForFew_29 rfl rfl (Nat.le_of_ble_eq_true rfl) (rmx_ok hR (by decide) (by decide) (by decide) (by decide)) (t_X5_power (nx := nx) (b := w) (k := i) (by omega) (by omega)) rfl ?_
        refine wp_lmul G dX5_waysForFew_32 ?_
        refine wp_iload_n G 3 dX5_waysForFew_33 rfl ?_
        refine wp_iload_n G 2 dX5_waysForFew_34 rfl ?_
        refine wp_isub G dX5_waysForFew_35 ?_
        refine wp_iload_n G 0 dX5_waysForFew_36 rfl ?_
        refine wp_iload G 5 dX5_waysForFew_37 rfl ?_
        refine wp_isub G dX5_waysForFew_39 ?_
        rw [show ((((a : Nat) : Int) - ((i : Nat) : Int)) : Int) = ((a - i : Nat) : Int) by omega]
        refine wp_cSE (as := [zI (t - w), zI ((a - i : Nat) : Int)]) (rest := [zJ (chI a ((i : Nat) : Int) * w ^ i), zJ (sumZ (fun i => ifZ (((i : Nat) : Int) ≤ n) (chI a ((i : Nat) : Int) * w ^ i * (t - w) ^ (a - i)) 0) i)]) (hp2 := (nx, h, [])) G mX5_power lX5_17 sX5_power dX5_waysForFew_40 rfl rfl (Nat.le_of_ble_eq_true rfl) (rmx_ok hR (by decide) (by decide) (by decide) (by decide)) (t_X5_power (nx := nx) (b := (t - w)) (k := (a - i)) (by omega) (by omega)) rfl ?_
        refine wp_lmul G dX5_waysForFew_43 ?_
        refine wp_ladd G dX5_waysForFew_44 ?_
        refine wp_lstore (lv' := [(4, zJ (sumZ (fun i => ifZ (((i : Nat) : Int) ≤ n) (chI a ((i : Nat) : Int) * w ^ i * (t - w) ^ (a - i)) 0) i + ((chI a ((i : Nat) : Int) * w ^ i) * (t - w) ^ (a - i)))), (0, zI ((a : Nat) : Int)), (1, zI n), (2, zI w), (3, zI t), (6, zI ((i : Nat) : Int))]) G dX5_waysForFew_45 (by decide) rfl ?_
        refine wp_iinc (lv' := [(6, zI (((i : Nat) : Int) + 1)), (4, zJ (sumZ (fun i => ifZ (((i : Nat) : Int) ≤ n) (chI a ((i : Nat) : Int) * w ^ i * (t - w) ^ (a - i)) 0) i + ((chI a ((i : Nat) : Int) * w ^ i) * (t - w) ^ (a - i)))), (0, zI ((a : Nat) : Int)), (1, zI n), (2, zI w), (3, zI t)]) G 5 dX5_waysForFew_47 rfl (by decide) rfl ?_
        refine wp_goto G dX5_waysForFew_50 ?_
        refine wp_lv [2, 3, 4, 5, 1, 0] rfl ?_
        exact ih6 (i + 1) (sumZ (fun i => ifZ (((i : Nat) : Int) ≤ n) (chI a ((i : Nat) : Int) * w ^ i * (t - w) ^ (a - i)) 0) i + ((chI a ((i : Nat) : Int) * w ^ i) * (t - w) ^ (a - i))) (((i : Nat) : Int) + 1) (by omega) (by rw [sumZ, ifZ_y (by omega)]) (by omega) (by omega)

