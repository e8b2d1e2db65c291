
set_option maxRecDepth 100000 in
set_option maxHeartbeats 4000000 in
theorem t_X10_slope {nx : Nat} {h : Nat → Option PC} {n : Nat} {q : Nat → Nat → Int} {o : Nat → Nat} {fc : Nat} {hn : Nat} {ln : Nat} {ma : Int} {mb : Int} {st : Nat → Int} {a : Int} {b : Int} {m : Int} {p : Int} (hQ : isM h n q o fc hn ln ma mb st) (hO : okQ n q o) (hN : okN st) (ri_a : r32 a) (ri_b : r32 b) (ri_m : r32 m) (ri_p : r32 p) : Cx 3 (0, 0) yX10_slope cX10_slope 10 (some .long) [zR 64, zI a, zI b, zI m, zI p] nx h (Rt (zJ (ansS n q a b m p)) nx []) := by
  refine cx_of pnX10_slope (Nat.le_of_ble_eq_true rfl) ?_
  intro K G hr hnm hR
  obtain ⟨h64, h65, h66, h67, h68, h69, h70, h71, h72, h73⟩ := id hQ
  have hn40 := hO.1
  obtain ⟨hN0, hN1, hN2, hN3, hN4⟩ := id hN
  show Wp K 10 (Mx K h (Rt (zJ (ansS n q a b m p)) nx []) (0, 0)) (0, 0) 0 [(0, zR 64), (1, zI a), (2, zI b), (3, zI m), (4, zI p)] [] (nx, h, [])
  refine wp_iload_n G 1 dX10_slope_0 rfl ?_
  refine wp_cSE (as := [zI a]) (rest := []) (hp2 := (nx, h, [])) G mX10_mayList lX10_173 sX10_mayList dX10_slope_1 rfl rfl (Nat.le_of_ble_eq_true rfl) (rmx_ok hR (by decide) (by decide) (by decide) (by decide)) (t_X10_mayList (nx := nx) (v := a) (by omega)) rfl ?_
  refine wp_ifne_bt G dX10_slope_4 (fun kq1 => ?_) (fun kq1 => ?_)
  · skip
    refine wp_iload_n G 2 dX10_slope_11 rfl ?_
    refine wp_cSE (as := [zI b]) (rest := []) (hp2 := (nx, h, [])) G mX10_isDay lX10_120 sX10_isDay dX10_slope_12 rfl rfl (Nat.le_of_ble_eq_true rfl) (rmx_ok hR (by decide) (by decide) (by decide) (by decide)) (t_X10_isDay (nx := nx) (v := b) (by omega)) rfl ?_
    refine wp_ifeq_bt G dX10_slope_15 (fun kq2 => ?_) (fun kq2 => ?_)
    · skip
      refine wp_ldc2 (z := -1000000000000000002) G kX10_184 dX10_slope_33 ?_
      exact wp_lreturn G hr dX10_slope_36 ⟨by first | (rw [ansS_1 (by omega)]; done) | (rw [ansS_2 (by omega) (by omega)]; done) | (rw [ansS_3 (by omega) (by omega) (by omega)]; done) | (rw [ansS_4 (by omega) (by omega) (by omega)]), rfl, by rfl⟩
    · skip
      refine wp_iload_n G 3 dX10_slope_18 rfl ?_
      refine wp_cSE (as := [zI m]) (rest := []) (hp2 := (nx, h, [])) G mX10_isGreat lX10_123 sX10_isGreat dX10_slope_19 rfl rfl (Nat.le_of_ble_eq_true rfl) (rmx_ok hR (by decide) (by decide) (by decide) (by decide)) (t_X10_isGreat (nx := nx) (v := m) (by omega)) rfl ?_
      refine wp_ifeq_bt G dX10_slope_22 (fun kq3 => ?_) (fun kq3 => ?_)
      · skip
        refine wp_ldc2 (z := -1000000000000000002) G kX10_184 dX10_slope_33 ?_
        exact wp_lreturn G hr dX10_slope_36 ⟨by first | (rw [ansS_1 (by omega)]; done) | (rw [ansS_2 (by omega) (by omega)]; done) | (rw [ansS_3 (by omega) (by omega) (by omega)]; done) | (rw [ansS_4 (by omega) (by omega) (by omega)]), rfl, by rfl⟩
      · skip
        refine wp_iload G 4 dX10_slope_25 rfl ?_
        refine wp_cSE (as := [zI p]) (rest := []) (hp2 := (nx, h, [])) G mX10_isPart lX10_181 sX10_isPart dX10_slope_27 rfl rfl (Nat.le_of_ble_eq_true rfl) (rmx_ok hR (by decide) (by decide) (by decide) (by decide)) (t_X10_isPart (nx := nx) (v := p) (by omega)) rfl ?_
        refine wp_ifne_bt G dX10_slope_30 (fun kq4 => ?_) (fun kq4 => ?_)
        · skip
          refine wp_lconst (z := 0) G dX10_slope_37 (by decide) ?_
          refine wp_lstore (lv' := [(5, zJ 0), (0, zR 64), (1, zI a), (2, zI b), (3, zI m), (4, zI p)]) G dX10_slope_38 (by decide) rfl ?_
          refine wp_lconst (z := 0) G dX10_slope_40 (by decide) ?_
          refine wp_lstore (lv' := [(7, zJ 0), (5, zJ 0), (0, zR 64), (1, zI a), (2, zI b), (3, zI m), (4, zI p)]) G dX10_slope_41 (by decide) rfl ?_
          refine wp_iconst G dX10_slope_43 ?_
          refine wp_istore (lv' := [(9, zI 0), (7, zJ 0), (5, zJ 0), (0, zR 64), (1, zI a), (2, zI b), (3, zI m), (4, zI p)]) G dX10_slope_44 (by decide) rfl ?_
          refine wp_lv [3, 4, 5, 6, 7, 2, 1, 0] rfl ?_
          suffices lp46 : ∀ (fu : Nat) (k : Nat) (v5 : Int) (v7 : Int) (v9 : Int), n - k < fu → (v5 = cntZ (fun j => cnd q a b j ∧ m ≤ q 4 j) k) → (v7 = sumZ (fun j => ifZ (cnd q a b j ∧ m ≤ q 4 j) (q 4 j - m) 0) k) → (v9 = ((k : Nat) : Int)) → (k ≤ n) → Wp K 10 (Mx K h (Rt (zJ (ansS n q a b m p)) nx []) (0, 0)) (0, 0) 46 [(0, zR 64), (1, zI a), (2, zI b), (3, zI m), (4, zI p), (5, zJ v5), (7, zJ v7), (9, zI v9)] [] (nx, h, []) from lp46 _ 0 0 0 0 (Nat.lt_succ_self _) (by rfl) (by rfl) (by omega) (by omega)
          intro fu
          induction fu with
          | zero => intro k v5 v7 v9 hm; exact absurd hm (Nat.not_lt_zero _)
          | succ fu ih46 =>
            intro k v5 v7 v9 hm46 e5 e7 e9 hi0
            subst e5
            subst e7
            subst e9
            have hnb := cntZ_r (fun j => cnd q a b j ∧ m ≤ q 4 j) k
            have hsb : 0 ≤ sumZ (fun j => ifZ (cnd q a b j ∧ m ≤ q 4 j) (q 4 j - m) 0) n ∧ sumZ (fun j => ifZ (cnd q a b j ∧ m ≤ q 4 j) (q 4 j - m) 0) n ≤ 4000 := sab_b hO (by omega)
            have hnn := cntZ_r (fun j => cnd q a b j ∧ m ≤ q 4 j) n
            refine wp_iload G 7 dX10_slope_46 rfl ?_
            refine wp_aload_n G 0 dX10_slope_48 rfl ?_
            refine wp_get G 7 cOk9 fX10_96 dX10_slope_49 h64 rfl ?_
            refine wp_icmp_ge G dX10_slope_52 (by omega) (by omega) (fun kq5 => ?_) (fun kq5 => ?_)
            · skip
              have ek : k = n := (by omega)
              subst k
              refine wp_lload G 5 dX10_slope_104 rfl ?_
              refine wp_lconst (z := 0) G dX10_slope_106 (by decide) ?_
              refine wp_lcmp G (by omega) (by omega) dX10_slope_107 ?_
              refine wp_if_ne G dX10_slope_108 (cmpZ_r _ _) (fun kq6 => ?_) (fun kq6 => ?_)
              · have kq6 : (cntZ (fun j => cnd q a b j ∧ m ≤ q 4 j) n) ≠ 0 := fun z => kq6 (cmpZ_eq.mpr z)
                refine wp_ldc2 (z := 2) G kX10_110 dX10_slope_117 ?_
                refine wp_lload G 5 dX10_slope_120 rfl ?_
                refine wp_lmul G dX10_slope_122 ?_
                refine wp_lload G 5 dX10_slope_123 rfl ?_
                refine wp_ldc2 (z := 2) G kX10_110 dX10_slope_125 ?_
                refine wp_lload G 6 dX10_slope_128 rfl ?_
                refine wp_lmul G dX10_slope_130 ?_
                refine wp_ladd G dX10_slope_131 ?_
                refine wp_iload G 4 dX10_slope_132 rfl ?_
                rw [show ((2 * cntZ (fun j => cnd q a b j ∧ m ≤ q 4 j) n) : Int) = (((2 * (cntZ (fun j => cnd q a b j ∧ m ≤ q 4 j) n)).toNat : Nat) : Int) by omega]
                rw [show ((cntZ (fun j => cnd q a b j ∧ m ≤ q 4 j) n + (2 * sumZ (fun j => ifZ (cnd q a b j ∧ m ≤ q 4 j) (q 4 j - m) 0) n)) : Int) = ((((cntZ (fun j => cnd q a b j ∧ m ≤ q 4 j) n) + 2 * (sumZ (fun j => ifZ (cnd q a b j ∧ m ≤ q 4 j) (q 4 j - m) 0) n)).toNat : Nat) : Int) by omega]
                refine wp_cSE (as := [zJ (((2 * (cntZ (fun j => cnd q a b j ∧ m ≤ q 4 j) n)).toNat : Nat) : Int), zJ ((((cntZ (fun j => cnd q a b j ∧ m ≤ q 4 j) n) + 2 * (sumZ (fun j => ifZ (cnd q a b j ∧ m ≤ q 4 j) (q 4 j - m) 0) n)).toNat : Nat) : Int), zI p]) (rest := []) (hp2 := (nx, h, [])) G mX10_lowest lX10_188 sX10_lowest dX10_slope_134 rfl rfl (Nat.le_of_ble_eq_true rfl) (rmx_ok hR (by decide) (by decide) (by decide) (by decide)) (t_X10_lowest (nx := nx) (a := ((2 * (cntZ (fun j => cnd q a b j ∧ m ≤ q 4 j) n)).toNat)) (b := (((cntZ (fun j => cnd q a b j ∧ m ≤ q 4 j) n) + 2 * (sumZ (fun j => ifZ (cnd q a b j ∧ m ≤ q 4 j) (q 4 j - m) 0) n)).toNat)) (p := p) (by omega) (by omega) (by omega) ri_p) rfl ?_
                exact wp_lreturn G hr dX10_slope_137 ⟨by first | (rw [ansS_1 (by omega)]; done) | (rw [ansS_2 (by omega) (by omega)]; done) | (rw [ansS_3 (by omega) (by omega) (by omega)]; done) | (rw [ansS_4 (by omega) (by omega) (by omega)]), rfl, by rfl⟩
              · have kq6 : (cntZ (fun j => cnd q a b j ∧ m ≤ q 4 j) n) = 0 := cmpZ_eq.mp kq6
                refine wp_ldc2 (z := -1000000000000000003) G kX10_186 dX10_slope_111 ?_
                refine wp_goto G dX10_slope_114 ?_
                exact wp_lreturn G hr dX10_slope_137 ⟨by first | (rw [ansS_1 (by omega)]; done) | (rw [ansS_2 (by omega) (by omega)]; done) | (rw [ansS_3 (by omega) (by omega) (by omega)]; done) | (rw [ansS_4 (by omega) (by omega) (by omega)]), rfl, by rfl⟩
            · skip
              refine wp_aload_n G 0 dX10_slope_55 rfl ?_
              refine wp_iload G 7 dX10_slope_56 rfl ?_
              refine wp_iload_n G 1 dX10_slope_58 rfl ?_
              refine wp_iload_n G 2 dX10_slope_59 rfl ?_
              refine wp_cVE (b := 64) (ci := 9) (as := [zI ((k : Nat) : Int), zI a, zI b]) (rest := []) (hp2 := (nx, h, [])) G mX10_isCounted lX10_167 iX10_isCounted eX10_isCounted ⟨_, rfl, rfl⟩ dX10_slope_60 h64 rfl rfl (Nat.le_of_ble_eq_true rfl) (rmx_ok hR (by decide) (by decide) (by decide) (by decide)) (t_X10_isCounted (nx := nx) (j := k) (a := a) (b := b) hQ hO hN (by omega) (by omega) ri_b) rfl ?_
              refine wp_ifeq_bt G dX10_slope_63 (fun kq7 => ?_) (fun kq7 => ?_)
              · skip
                refine wp_iinc (lv' := [(9, zI (((k : Nat) : Int) + 1)), (0, zR 64), (1, zI a), (2, zI b), (3, zI m), (4, zI p), (5, zJ (cntZ (fun j => cnd q a b j ∧ m ≤ q 4 j) k)), (7, zJ (sumZ (fun j => ifZ (cnd q a b j ∧ m ≤ q 4 j) (q 4 j - m) 0) k))]) G 7 dX10_slope_98 rfl (by decide) rfl ?_
                refine wp_goto G dX10_slope_101 ?_
                refine wp_lv [1, 2, 3, 4, 5, 6, 7, 0] rfl ?_
                exact ih46 (k + 1) (cntZ (fun j => cnd q a b j ∧ m ≤ q 4 j) k) (sumZ (fun j => ifZ (cnd q a b j ∧ m ≤ q 4 j) (q 4 j - m) 0) k) (((k : Nat) : Int) + 1) (by omega) (by first | rw [cntZ_y (by first | assumption | exact ⟨by assumption, by omega⟩)] | rw [cntZ_n (by intro z; first | exact absurd z.1 (by assumption) | (have := z.2; omega))]) (by first | (rw [sumZ, ifZ_y (by first | assumption | exact ⟨by assumption, by omega⟩)]) | (rw [sumZ, ifZ_n (by intro z; first | exact absurd z.1 (by assumption) | (have := z.2; omega))]; omega)) (by omega) (by omega)
              · skip
                refine wp_aload_n G 0 dX10_slope_66 rfl ?_
                refine wp_get G 4 cOk9 fX10_22 dX10_slope_67 h64 rfl ?_
                refine wp_iload G 7 dX10_slope_70 rfl ?_
                refine wp_iald (j := k) G dX10_slope_72 h69 rfl (by omega) (by decide) ?_
                have rrq1 := hO.g k (by omega)
                refine wp_iload_n G 3 dX10_slope_73 rfl ?_
                refine wp_icmp_lt G dX10_slope_74 (by omega) (by omega) (fun kq8 => ?_) (fun kq8 => ?_)
                · skip
                  refine wp_iinc (lv' := [(9, zI (((k : Nat) : Int) + 1)), (0, zR 64), (1, zI a), (2, zI b), (3, zI m), (4, zI p), (5, zJ (cntZ (fun j => cnd q a b j ∧ m ≤ q 4 j) k)), (7, zJ (sumZ (fun j => ifZ (cnd q a b j ∧ m ≤ q 4 j) (q 4 j - m) 0) k))]) G 7 dX10_slope_98 rfl (by decide) rfl ?_
                  refine wp_goto G dX10_slope_101 ?_
                  refine wp_lv [1, 2, 3, 4, 5, 6, 7, 0] rfl ?_
                  exact ih46 (k + 1) (cntZ (fun j => cnd q a b j ∧ m ≤ q 4 j) k) (sumZ (fun j => ifZ (cnd q a b j ∧ m ≤ q 4 j) (q 4 j - m) 0) k) (((k : Nat) : Int) + 1) (by omega) (by first | rw [cntZ_y (by first | assumption | exact ⟨by assumption, by omega⟩)] | rw [cntZ_n (by intro z; first | exact absurd z.1 (by assumption) | (have := z.2; omega))]) (by first | (rw [sumZ, ifZ_y (by first | assumption | exact ⟨by assumption, by omega⟩)]) | (rw [sumZ, ifZ_n (by intro z; first | exact absurd z.1 (by assumption) | (have := z.2; omega))]; omega)) (by omega) (by omega)
                · skip
                  refine wp_lload G 5 dX10_slope_77 rfl ?_
                  refine wp_lconst (z := 1) G dX10_slope_79 (by decide) ?_
                  refine wp_ladd G dX10_slope_80 ?_
                  refine wp_lstore (lv' := [(5, zJ (cntZ (fun j => cnd q a b j ∧ m ≤ q 4 j) k + 1)), (0, zR 64), (1, zI a), (2, zI b), (3, zI m), (4, zI p), (7, zJ (sumZ (fun j => ifZ (cnd q a b j ∧ m ≤ q 4 j) (q 4 j - m) 0) k)), (9, zI ((k : Nat) : Int))]) G dX10_slope_81 (by decide) rfl ?_
                  refine wp_lload G 6 dX10_slope_83 rfl ?_
                  refine wp_aload_n G 1 dX10_slope_85 rfl ?_
                  refine wp_get G 4 cOk9 fX10_22 dX10_slope_86 h64 rfl ?_
                  refine wp_iload G 7 dX10_slope_89 rfl ?_
                  refine wp_iald (j := k) G dX10_slope_91 h69 rfl (by omega) (by decide) ?_
                  have rrq2 := hO.g k (by omega)
                  refine wp_iload_n G 4 dX10_slope_92 rfl ?_
                  refine wp_isub G dX10_slope_93 ?_
                  refine wp_i2l G (by omega) dX10_slope_94 ?_
                  refine wp_ladd G dX10_slope_95 ?_
                  refine wp_lstore (lv' := [(7, zJ (sumZ (fun j => ifZ (cnd q a b j ∧ m ≤ q 4 j) (q 4 j - m) 0) k + (((q 4) k) - m))), (5, zJ (cntZ (fun j => cnd q a b j ∧ m ≤ q 4 j) k + 1)), (0, zR 64), (1, zI a), (2, zI b), (3, zI m), (4, zI p), (9, zI ((k : Nat) : Int))]) G dX10_slope_96 (by decide) rfl ?_
                  refine wp_iinc (lv' := [(9, zI (((k : Nat) : Int) + 1)), (7, zJ (sumZ (fun j => ifZ (cnd q a b j ∧ m ≤ q 4 j) (q 4 j - m) 0) k + (((q 4) k) - m))), (5, zJ (cntZ (fun j => cnd q a b j ∧ m ≤ q 4 j) k + 1)), (0, zR 64), (1, zI a), (2, zI b), (3, zI m), (4, zI p)]) G 7 dX10_slope_98 rfl (by decide) rfl ?_
                  refine wp_goto G dX10_slope_101 ?_
                  refine wp_lv [3, 4, 5, 6, 7, 2, 1, 0] rfl ?_
                  exact ih46 (k + 1) (cntZ (fun j => cnd q a b j ∧ m ≤ q 4 j) k + 1) (sumZ (fun j => ifZ (cnd q a b j ∧ m ≤ q 4 j) (q 4 j - m) 0) k + (((q 4) k) - m)) (((k : Nat) : Int) + 1) (by omega) (by first | rw [cntZ_y (by first | assumption | exact ⟨by assumption, by omega⟩)] | rw [cntZ_n (by intro z; first | exact absurd z.1 (by assumption) | (have := z.2; omega))]) (by first | (rw [sumZ, ifZ_y (by first | assumption | exact ⟨by assumption, by omega⟩)]) | (rw [sumZ, ifZ_n (by intro z; first | exact absurd z.1 (by assumption) | (have := z.2; omega))]; omega)) (by omega) (by omega)
        · skip
          refine wp_ldc2 (z := -1000000000000000002) G kX10_184 dX10_slope_33 ?_
          exact wp_lreturn G hr dX10_slope_36 ⟨by first | (rw [ansS_1 (by omega)]; done) | (rw [ansS_2 (by omega) (by omega)]; done) | (rw [ansS_3 (by omega) (by omega) (by omega)]; done) | (rw [ansS_4 (by omega) (by omega) (by omega)]), rfl, by rfl⟩
  · skip
    refine wp_ldc2 (z := -1000000000000000001) G kX10_179 dX10_slope_7 ?_
    exact wp_lreturn G hr dX10_slope_10 ⟨by first | (rw [ansS_1 (by omega)]; done) | (rw [ansS_2 (by omega) (by omega)]; done) | (rw [ansS_3 (by omega) (by omega) (by omega)]; done) | (rw [ansS_4 (by omega) (by omega) (by omega)]), rfl, by rfl⟩

