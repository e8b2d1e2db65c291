
set_option maxRecDepth 100000 in
set_option maxHeartbeats 4000000 in
theorem t_X10_alike {nx : Nat} {h : Nat → Option PC} {n : Nat} {q : Nat → Nat → Int} {o : Nat → Nat} {fc : Nat} {hn : Nat} {ln : Nat} {ma : Int} {mb : Int} {st : Nat → Int} {a : Int} {b : Int} {m : Int} {p : Int} (hQ : isM h n q o fc hn ln ma mb st) (hO : okQ n q o) (hN : okN st) (ri_a : r32 a) (ri_b : r32 b) (ri_m : r32 m) (ri_p : r32 p) : Cx 3 (0, 0) yX10_alike cX10_alike 12 (some .long) [zR 64, zI a, zI b, zI m, zI p] nx h (Rt (zJ (ansA n q a b m p)) nx []) := by
  refine cx_of pnX10_alike (Nat.le_of_ble_eq_true rfl) ?_
  intro K G hr hnm hR
  obtain ⟨h64, h65, h66, h67, h68, h69, h70, h71, h72, h73⟩ := id hQ
  have hn40 := hO.1
  obtain ⟨hN0, hN1, hN2, hN3, hN4⟩ := id hN
  show Wp K 12 (Mx K h (Rt (zJ (ansA n q a b m p)) nx []) (0, 0)) (0, 0) 0 [(0, zR 64), (1, zI a), (2, zI b), (3, zI m), (4, zI p)] [] (nx, h, [])
  refine wp_iload_n G 1 dX10_alike_0 rfl ?_
  refine wp_cSE (as := [zI a]) (rest := []) (hp2 := (nx, h, [])) G mX10_isList lX10_112 sX10_isList dX10_alike_1 rfl rfl (Nat.le_of_ble_eq_true rfl) (rmx_ok hR (by decide) (by decide) (by decide) (by decide)) (t_X10_isList (nx := nx) (v := a) (by omega)) rfl ?_
  refine wp_ifeq_bt G dX10_alike_4 (fun kq1 => ?_) (fun kq1 => ?_)
  · skip
    refine wp_ldc2 (z := -1000000000000000001) G kX10_179 dX10_alike_19 ?_
    exact wp_lreturn G hr dX10_alike_22 ⟨by first | (rw [ansA_1 (by omega)]; done) | (rw [ansA_2 (by omega) (by omega)]; done), rfl, by rfl⟩
  · skip
    refine wp_iload_n G 2 dX10_alike_7 rfl ?_
    refine wp_cSE (as := [zI b]) (rest := []) (hp2 := (nx, h, [])) G mX10_isList lX10_112 sX10_isList dX10_alike_8 rfl rfl (Nat.le_of_ble_eq_true rfl) (rmx_ok hR (by decide) (by decide) (by decide) (by decide)) (t_X10_isList (nx := nx) (v := b) (by omega)) rfl ?_
    refine wp_ifeq_bt G dX10_alike_11 (fun kq2 => ?_) (fun kq2 => ?_)
    · skip
      refine wp_ldc2 (z := -1000000000000000001) G kX10_179 dX10_alike_19 ?_
      exact wp_lreturn G hr dX10_alike_22 ⟨by first | (rw [ansA_1 (by omega)]; done) | (rw [ansA_2 (by omega) (by omega)]; done), rfl, by rfl⟩
    · skip
      refine wp_iload_n G 1 dX10_alike_14 rfl ?_
      refine wp_iload_n G 2 dX10_alike_15 rfl ?_
      refine wp_icmp_ne G dX10_alike_16 (by omega) (by omega) (fun kq3 => ?_) (fun kq3 => ?_)
      · skip
        refine wp_iload_n G 3 dX10_alike_23 rfl ?_
        refine wp_cSE (as := [zI m]) (rest := []) (hp2 := (nx, h, [])) G mX10_isGreat lX10_123 sX10_isGreat dX10_alike_24 rfl rfl (Nat.le_of_ble_eq_true rfl) (rmx_ok hR (by decide) (by decide) (by decide) (by decide)) (t_X10_isGreat (nx := nx) (v := m) (by omega)) rfl ?_
        refine wp_ifeq_bt G dX10_alike_27 (fun kq4 => ?_) (fun kq4 => ?_)
        · skip
          refine wp_ldc2 (z := -1000000000000000002) G kX10_184 dX10_alike_38 ?_
          exact wp_lreturn G hr dX10_alike_41 ⟨by first | (rw [ansA_1 (by omega)]; done) | (rw [ansA_2 (by omega) (by omega)]; done), rfl, by rfl⟩
        · skip
          refine wp_iload G 4 dX10_alike_30 rfl ?_
          refine wp_cSE (as := [zI p]) (rest := []) (hp2 := (nx, h, [])) G mX10_isPart lX10_181 sX10_isPart dX10_alike_32 rfl rfl (Nat.le_of_ble_eq_true rfl) (rmx_ok hR (by decide) (by decide) (by decide) (by decide)) (t_X10_isPart (nx := nx) (v := p) (by omega)) rfl ?_
          refine wp_ifne_bt G dX10_alike_35 (fun kq5 => ?_) (fun kq5 => ?_)
          · skip
            have hA40 : hM q n a 0 + hM q n b 0 ≤ 40 := hM_2 hO (by omega)
            have hAm : hM q n a m ≤ hM q n a 0 := hM_m (by omega)
            have hBm : hM q n b m ≤ hM q n b 0 := hM_m (by omega)
            have hwb := wtd_b (A := hM q n a 0) (B := hM q n b 0) (g := hM q n a m + hM q n b m) (c := hM q n a m) hA40 (by omega)
            have hcp := chI_p (n := hM q n a 0 + hM q n b 0) (k := hM q n a 0) hA40 (by omega)
            refine wp_aload_n G 0 dX10_alike_42 rfl ?_
            refine wp_iload_n G 1 dX10_alike_43 rfl ?_
            refine wp_sipush G dX10_alike_44 (by decide) ?_
            refine wp_iconst G dX10_alike_47 ?_
            refine wp_cVE (b := 64) (ci := 9) (as := [zI a, zI 3999, zI 0]) (rest := []) (hp2 := (nx, h, [])) G mX10_countOf lX10_176 iX10_countOf eX10_countOf ⟨_, rfl, rfl⟩ dX10_alike_48 h64 rfl rfl (Nat.le_of_ble_eq_true rfl) (rmx_ok hR (by decide) (by decide) (by decide) (by decide)) (t_X10_countOf (nx := nx) (a := a) (b := 3999) (m := 0) hQ hO hN (by omega) (by omega) (by omega)) rfl ?_
            rw [hM_e q n a 0]
            refine wp_istore (lv' := [(5, zI ((hM q n a 0 : Nat) : Int)), (0, zR 64), (1, zI a), (2, zI b), (3, zI m), (4, zI p)]) G dX10_alike_51 (by decide) rfl ?_
            refine wp_iload G 0 dX10_alike_53 rfl ?_
            refine wp_aload_n G 1 dX10_alike_55 rfl ?_
            refine wp_iload_n G 3 dX10_alike_56 rfl ?_
            refine wp_sipush G dX10_alike_57 (by decide) ?_
            refine wp_iconst G dX10_alike_60 ?_
            refine wp_cVE (b := 64) (ci := 9) (as := [zI b, zI 3999, zI 0]) (rest := [zI ((hM q n a 0 : Nat) : Int)]) (hp2 := (nx, h, [])) G mX10_countOf lX10_176 iX10_countOf eX10_countOf ⟨_, rfl, rfl⟩ dX10_alike_61 h64 rfl rfl (Nat.le_of_ble_eq_true rfl) (rmx_ok hR (by decide) (by decide) (by decide) (by decide)) (t_X10_countOf (nx := nx) (a := b) (b := 3999) (m := 0) hQ hO hN (by omega) (by omega) (by omega)) rfl ?_
            rw [hM_e q n b 0]
            refine wp_iadd G dX10_alike_64 ?_
            rw [show ((((hM q n a 0 : Nat) : Int) + ((hM q n b 0 : Nat) : Int)) : Int) = ((hM q n a 0 + hM q n b 0 : Nat) : Int) by omega]
            refine wp_istore (lv' := [(6, zI ((hM q n a 0 + hM q n b 0 : Nat) : Int)), (5, zI ((hM q n a 0 : Nat) : Int)), (0, zR 64), (1, zI a), (2, zI b), (3, zI m), (4, zI p)]) G dX10_alike_65 (by decide) rfl ?_
            refine wp_aload_n G 2 dX10_alike_67 rfl ?_
            refine wp_iload_n G 3 dX10_alike_68 rfl ?_
            refine wp_sipush G dX10_alike_69 (by decide) ?_
            refine wp_iload_n G 5 dX10_alike_72 rfl ?_
            refine wp_cVE (b := 64) (ci := 9) (as := [zI a, zI 3999, zI m]) (rest := []) (hp2 := (nx, h, [])) G mX10_countOf lX10_176 iX10_countOf eX10_countOf ⟨_, rfl, rfl⟩ dX10_alike_73 h64 rfl rfl (Nat.le_of_ble_eq_true rfl) (rmx_ok hR (by decide) (by decide) (by decide) (by decide)) (t_X10_countOf (nx := nx) (a := a) (b := 3999) (m := m) hQ hO hN (by omega) (by omega) ri_m) rfl ?_
            rw [hM_e q n a m]
            refine wp_istore (lv' := [(7, zI ((hM q n a m : Nat) : Int)), (6, zI ((hM q n a 0 + hM q n b 0 : Nat) : Int)), (5, zI ((hM q n a 0 : Nat) : Int)), (0, zR 64), (1, zI a), (2, zI b), (3, zI m), (4, zI p)]) G dX10_alike_76 (by decide) rfl ?_
            refine wp_iload G 0 dX10_alike_78 rfl ?_
            refine wp_aload_n G 3 dX10_alike_80 rfl ?_
            refine wp_iload_n G 5 dX10_alike_81 rfl ?_
            refine wp_sipush G dX10_alike_82 (by decide) ?_
            refine wp_iload_n G 6 dX10_alike_85 rfl ?_
            refine wp_cVE (b := 64) (ci := 9) (as := [zI b, zI 3999, zI m]) (rest := [zI ((hM q n a m : Nat) : Int)]) (hp2 := (nx, h, [])) G mX10_countOf lX10_176 iX10_countOf eX10_countOf ⟨_, rfl, rfl⟩ dX10_alike_86 h64 rfl rfl (Nat.le_of_ble_eq_true rfl) (rmx_ok hR (by decide) (by decide) (by decide) (by decide)) (t_X10_countOf (nx := nx) (a := b) (b := 3999) (m := m) hQ hO hN (by omega) (by omega) ri_m) rfl ?_
            rw [hM_e q n b m]
            refine wp_iadd G dX10_alike_89 ?_
            rw [show ((((hM q n a m : Nat) : Int) + ((hM q n b m : Nat) : Int)) : Int) = ((hM q n a m + hM q n b m : Nat) : Int) by omega]
            refine wp_istore (lv' := [(8, zI ((hM q n a m + hM q n b m : Nat) : Int)), (7, zI ((hM q n a m : Nat) : Int)), (6, zI ((hM q n a 0 + hM q n b 0 : Nat) : Int)), (5, zI ((hM q n a 0 : Nat) : Int)), (0, zR 64), (1, zI a), (2, zI b), (3, zI m), (4, zI p)]) G dX10_alike_90 (by decide) rfl ?_
            refine wp_lconst (z := 0) G dX10_alike_92 (by decide) ?_
            refine wp_lstore (lv' := [(9, zJ 0), (8, zI ((hM q n a m + hM q n b m : Nat) : Int)), (7, zI ((hM q n a m : Nat) : Int)), (6, zI ((hM q n a 0 + hM q n b 0 : Nat) : Int)), (5, zI ((hM q n a 0 : Nat) : Int)), (0, zR 64), (1, zI a), (2, zI b), (3, zI m), (4, zI p)]) G dX10_alike_93 (by decide) rfl ?_
            refine wp_iload G 2 dX10_alike_95 rfl ?_
            refine wp_istore (lv' := [(11, zI ((hM q n a m : Nat) : Int)), (9, zJ 0), (8, zI ((hM q n a m + hM q n b m : Nat) : Int)), (7, zI ((hM q n a m : Nat) : Int)), (6, zI ((hM q n a 0 + hM q n b 0 : Nat) : Int)), (5, zI ((hM q n a 0 : Nat) : Int)), (0, zR 64), (1, zI a), (2, zI b), (3, zI m), (4, zI p)]) G dX10_alike_97 (by decide) rfl ?_
            refine wp_lv [6, 7, 8, 9, 10, 5, 4, 3, 2, 1, 0] rfl ?_
            suffices lp99 : ∀ (fu : Nat) (i : Nat) (v9 : Int) (v11 : Int), (hM q n a m + hM q n b m) + 1 - hM q n a m - i < fu → (v9 = sumZ (fun j => chI (hM q n a m + hM q n b m) (((hM q n a m + j : Nat)) : Int) * chI (hM q n a 0 + hM q n b 0 - (hM q n a m + hM q n b m)) (((hM q n a 0 : Nat) : Int) - (((hM q n a m + j : Nat)) : Int))) i) → (v11 = ((hM q n a m + i : Nat) : Int)) → (i ≤ (hM q n a m + hM q n b m) + 1 - hM q n a m) → Wp K 12 (Mx K h (Rt (zJ (ansA n q a b m p)) nx []) (0, 0)) (0, 0) 99 [(0, zR 64), (1, zI a), (2, zI b), (3, zI m), (4, zI p), (5, zI ((hM q n a 0 : Nat) : Int)), (6, zI ((hM q n a 0 + hM q n b 0 : Nat) : Int)), (7, zI ((hM q n a m : Nat) : Int)), (8, zI ((hM q n a m + hM q n b m : Nat) : Int)), (9, zJ v9), (11, zI v11)] [] (nx, h, []) from lp99 _ 0 0 ((hM q n a m : Nat) : Int) (Nat.lt_succ_self _) (by rfl) (by omega) (by omega)
            intro fu
            induction fu with
            | zero => intro i v9 v11 hm; exact absurd hm (Nat.not_lt_zero _)
            | succ fu ih99 =>
              intro i v9 v11 hm99 e9 e11 hi0
              subst e9
              subst e11
              refine wp_iload G 10 dX10_alike_99 rfl ?_
              refine wp_iload G 8 dX10_alike_101 rfl ?_
              refine wp_icmp_gt G dX10_alike_103 (by omega) (by omega) (fun kq6 => ?_) (fun kq6 => ?_)
              · skip
                have ei : i = ((hM q n a m + hM q n b m) + 1 - hM q n a m) := (by omega)
                subst i
                rw [show (sumZ (fun j => chI (hM q n a m + hM q n b m) (((hM q n a m + j : Nat)) : Int) * chI (hM q n a 0 + hM q n b 0 - (hM q n a m + hM q n b m)) (((hM q n a 0 : Nat) : Int) - (((hM q n a m + j : Nat)) : Int))) ((hM q n a m + hM q n b m) + 1 - hM q n a m) : Int) = wtd (hM q n a 0) (hM q n b 0) (hM q n a m + hM q n b m) (hM q n a m) from rfl]
                refine wp_lload G 9 dX10_alike_138 rfl ?_
                refine wp_iload G 6 dX10_alike_140 rfl ?_
                refine wp_iload G 5 dX10_alike_142 rfl ?_
                refine wp_cSE (as := [zI ((hM q n a 0 + hM q n b 0 : Nat) : Int), zI ((hM q n a 0 : Nat) : Int)]) (rest := [zJ (wtd (hM q n a 0) (hM q n b 0) (hM q n a m + hM q n b m) (hM q n a m))]) (hp2 := (nx, h, [])) G mX10_choose lX10_192 sX10_choose dX10_alike_144 rfl rfl (Nat.le_of_ble_eq_true rfl) (rmx_ok hR (by decide) (by decide) (by decide) (by decide)) (t_X10_choose (nx := nx) (n := (hM q n a 0 + hM q n b 0)) (k := ((hM q n a 0 : Nat) : Int)) (by omega) (by omega)) rfl ?_
                refine wp_iload G 4 dX10_alike_147 rfl ?_
                rw [show ((wtd (hM q n a 0) (hM q n b 0) (hM q n a m + hM q n b m) (hM q n a m)) : Int) = (((wtd (hM q n a 0) (hM q n b 0) (hM q n a m + hM q n b m) (hM q n a m)).toNat : Nat) : Int) by omega]
                rw [show (chI (hM q n a 0 + hM q n b 0) ((hM q n a 0 : Nat) : Int) : Int) = (((chI (hM q n a 0 + hM q n b 0) ((hM q n a 0 : Nat) : Int)).toNat : Nat) : Int) by omega]
                refine wp_cSE (as := [zJ (((((wtd (hM q n a 0) (hM q n b 0) (hM q n a m + hM q n b m) (hM q n a m)).toNat : Nat) : Int).toNat : Nat) : Int), zJ ((((((chI (hM q n a 0 + hM q n b 0) ((hM q n a 0 : Nat) : Int)).toNat : Nat) : Int)).toNat : Nat) : Int), zI p]) (rest := []) (hp2 := (nx, h, [])) G mX10_lowest lX10_188 sX10_lowest dX10_alike_149 rfl rfl (Nat.le_of_ble_eq_true rfl) (rmx_ok hR (by decide) (by decide) (by decide) (by decide)) (t_X10_lowest (nx := nx) (a := ((((wtd (hM q n a 0) (hM q n b 0) (hM q n a m + hM q n b m) (hM q n a m)).toNat : Nat) : Int).toNat)) (b := (((((chI (hM q n a 0 + hM q n b 0) ((hM q n a 0 : Nat) : Int)).toNat : Nat) : Int)).toNat)) (p := p) (by omega) (by omega) (by omega) ri_p) rfl ?_
                exact wp_lreturn G hr dX10_alike_152 ⟨by rw [ansA_3 (by omega) (by omega)]; simp only [Int.toNat_natCast], rfl, by rfl⟩
              · skip
                refine wp_lload G 9 dX10_alike_106 rfl ?_
                refine wp_iload G 8 dX10_alike_108 rfl ?_
                refine wp_iload G 10 dX10_alike_110 rfl ?_
                refine wp_cSE (as := [zI ((hM q n a m + hM q n b m : Nat) : Int), zI ((hM q n a m + i : Nat) : Int)]) (rest := [zJ (sumZ (fun j => chI (hM q n a m + hM q n b m) (((hM q n a m + j : Nat)) : Int) * chI (hM q n a 0 + hM q n b 0 - (hM q n a m + hM q n b m)) (((hM q n a 0 : Nat) : Int) - (((hM q n a m + j : Nat)) : Int))) i)]) (hp2 := (nx, h, [])) G mX10_choose lX10_192 sX10_choose dX10_alike_112 rfl rfl (Nat.le_of_ble_eq_true rfl) (rmx_ok hR (by decide) (by decide) (by decide) (by decide)) (t_X10_choose (nx := nx) (n := (hM q n a m + hM q n b m)) (k := ((hM q n a m + i : Nat) : Int)) (by omega) (by omega)) rfl ?_
                refine wp_iload G 6 dX10_alike_115 rfl ?_
                refine wp_iload G 8 dX10_alike_117 rfl ?_
                refine wp_isub G dX10_alike_119 ?_
                refine wp_iload G 5 dX10_alike_120 rfl ?_
                refine wp_iload G 10 dX10_alike_122 rfl ?_
                refine wp_isub G dX10_alike_124 ?_
                rw [show ((((hM q n a 0 + hM q n b 0 : Nat) : Int) - ((hM q n a m + hM q n b m : Nat) : Int)) : Int) = ((hM q n a 0 + hM q n b 0 - (hM q n a m + hM q n b m) : Nat) : Int) by omega]
                refine wp_cSE (as := [zI ((hM q n a 0 + hM q n b 0 - (hM q n a m + hM q n b m) : Nat) : Int), zI (((hM q n a 0 : Nat) : Int) - ((hM q n a m + i : Nat) : Int))]) (rest := [zJ (chI (hM q n a m + hM q n b m) ((hM q n a m + i : Nat) : Int)), zJ (sumZ (fun j => chI (hM q n a m + hM q n b m) (((hM q n a m + j : Nat)) : Int) * chI (hM q n a 0 + hM q n b 0 - (hM q n a m + hM q n b m)) (((hM q n a 0 : Nat) : Int) - (((hM q n a m + j : Nat)) : Int))) i)]) (hp2 := (nx, h, [])) G mX10_choose lX10_192 sX10_choose dX10_alike_125 rfl rfl (Nat.le_of_ble_eq_true rfl) (rmx_ok hR (by decide) (by decide) (by decide) (by decide)) (t_X10_choose (nx := nx) (n := (hM q n a 0 + hM q n b 0 - (hM q n a m + hM q n b m))) (k := (((hM q n a 0 : Nat) : Int) - ((hM q n a m + i : Nat) : Int))) (by omega) (by omega)) rfl ?_
                refine wp_lmul G dX10_alike_128 ?_
                refine wp_ladd G dX10_alike_129 ?_
                refine wp_lstore (lv' := [(9, zJ (sumZ (fun j => chI (hM q n a m + hM q n b m) (((hM q n a m + j : Nat)) : Int) * chI (hM q n a 0 + hM q n b 0 - (hM q n a m + hM q n b m)) (((hM q n a 0 : Nat) : Int) - (((hM q n a m + j : Nat)) : Int))) i + (chI (hM q n a m + hM q n b m) ((hM q n a m + i : Nat) : Int) * chI (hM q n a 0 + hM q n b 0 - (hM q n a m + hM q n b m)) (((hM q n a 0 : Nat) : Int) - ((hM q n a m + i : Nat) : Int))))), (0, zR 64), (1, zI a), (2, zI b), (3, zI m), (4, zI p), (5, zI ((hM q n a 0 : Nat) : Int)), (6, zI ((hM q n a 0 + hM q n b 0 : Nat) : Int)), (7, zI ((hM q n a m : Nat) : Int)), (8, zI ((hM q n a m + hM q n b m : Nat) : Int)), (11, zI ((hM q n a m + i : Nat) : Int))]) G dX10_alike_130 (by decide) rfl ?_
                refine wp_iinc (lv' := [(11, zI (((hM q n a m + i : Nat) : Int) + 1)), (9, zJ (sumZ (fun j => chI (hM q n a m + hM q n b m) (((hM q n a m + j : Nat)) : Int) * chI (hM q n a 0 + hM q n b 0 - (hM q n a m + hM q n b m)) (((hM q n a 0 : Nat) : Int) - (((hM q n a m + j : Nat)) : Int))) i + (chI (hM q n a m + hM q n b m) ((hM q n a m + i : Nat) : Int) * chI (hM q n a 0 + hM q n b 0 - (hM q n a m + hM q n b m)) (((hM q n a 0 : Nat) : Int) - ((hM q n a m + i : Nat) : Int))))), (0, zR 64), (1, zI a), (2, zI b), (3, zI m), (4, zI p), (5, zI ((hM q n a 0 : Nat) : Int)), (6, zI ((hM q n a 0 + hM q n b 0 : Nat) : Int)), (7, zI ((hM q n a m : Nat) : Int)), (8, zI ((hM q n a m + hM q n b m : Nat) : Int))]) G 10 dX10_alike_132 rfl (by decide) rfl ?_
                refine wp_goto G dX10_alike_135 ?_
                refine wp_lv [2, 3, 4, 5, 6, 7, 8, 9, 10, 1, 0] rfl ?_
                exact ih99 (i + 1) (sumZ (fun j => chI (hM q n a m + hM q n b m) (((hM q n a m + j : Nat)) : Int) * chI (hM q n a 0 + hM q n b 0 - (hM q n a m + hM q n b m)) (((hM q n a 0 : Nat) : Int) - (((hM q n a m + j : Nat)) : Int))) i + (chI (hM q n a m + hM q n b m) ((hM q n a m + i : Nat) : Int) * chI (hM q n a 0 + hM q n b 0 - (hM q n a m + hM q n b m)) (((hM q n a 0 : Nat) : Int) - ((hM q n a m + i : Nat) : Int)))) (((hM q n a m + i : Nat) : Int) + 1) (by omega) (by rfl) (by omega) (by omega)
          · skip
            refine wp_ldc2 (z := -1000000000000000002) G kX10_184 dX10_alike_38 ?_
            exact wp_lreturn G hr dX10_alike_41 ⟨by first | (rw [ansA_1 (by omega)]; done) | (rw [ansA_2 (by omega) (by omega)]; done), rfl, by rfl⟩
      · skip
        refine wp_ldc2 (z := -1000000000000000001) G kX10_179 dX10_alike_19 ?_
        exact wp_lreturn G hr dX10_alike_22 ⟨by first | (rw [ansA_1 (by omega)]; done) | (rw [ansA_2 (by omega) (by omega)]; done), rfl, by rfl⟩

