noncomputable def hM (q : Nat → Nat → Int) (n : Nat) (a m : Int) : Nat := (cntZ (fun j => cnd q a 3999 j ∧ m ≤ q 4 j) n).toNat
theorem hM_e (q : Nat → Nat → Int) (n : Nat) (a m : Int) : cntZ (fun j => cnd q a 3999 j ∧ m ≤ q 4 j) n = ((hM q n a m : Nat) : Int) := by
  have := cntZ_r (fun j => cnd q a 3999 j ∧ m ≤ q 4 j) n
  unfold hM
  omega
theorem cnt_mono {P R : Nat → Prop} : ∀ k, (∀ j, j < k → P j → R j) → cntZ P k ≤ cntZ R k
  | 0, _ => Int.le_refl _
  | k + 1, h => by
    have ih := cnt_mono k (fun j hj => h j (by omega))
    by_cases c : P k
    · rw [cntZ_y c, cntZ_y (h k (by omega) c)]; omega
    · rw [cntZ_n c]
      rcases bt_01 (R k) with z | z <;> rw [cntZ, z] <;> omega
theorem cnt_two {P R : Nat → Prop} (h : ∀ j, P j → ¬ R j) : ∀ k, cntZ P k + cntZ R k ≤ ((k : Nat) : Int)
  | 0 => Int.le_refl _
  | k + 1 => by
    have ih := cnt_two h k
    by_cases c : P k
    · rw [cntZ_y c, cntZ_n (h k c)]; omega
    · rw [cntZ_n c]
      rcases bt_01 (R k) with z | z <;> rw [cntZ, z] <;> omega
theorem hM_m {q : Nat → Nat → Int} {n : Nat} {a m : Int} (h : 0 ≤ m) : hM q n a m ≤ hM q n a 0 := by
  have h1 := hM_e q n a m
  have h2 := hM_e q n a 0
  have := cnt_mono (P := fun j => cnd q a 3999 j ∧ m ≤ q 4 j) (R := fun j => cnd q a 3999 j ∧ 0 ≤ q 4 j) n (fun j _ z => ⟨z.1, by have := z.2; omega⟩)
  omega
theorem hM_2 {q : Nat → Nat → Int} {n : Nat} {o : Nat → Nat} {a b : Int} (hO : okQ n q o) (h : (0 ≤ a ∧ 0 ≤ b) ∧ a ≠ b) : hM q n a 0 + hM q n b 0 ≤ 40 := by
  have h1 := hM_e q n a 0
  have h2 := hM_e q n b 0
  have hn := hO.1
  have := cnt_two (P := fun j => cnd q a 3999 j ∧ 0 ≤ q 4 j) (R := fun j => cnd q b 3999 j ∧ 0 ≤ q 4 j) (fun j z y => by
    have z1 := z.1.2.2
    have y1 := y.1.2.2
    omega) n
  omega
noncomputable def wtd (A B g c : Nat) : Int := sumZ (fun j => chI g (((c + j : Nat)) : Int) * chI (A + B - g) (((A : Nat) : Int) - (((c + j : Nat)) : Int))) (g + 1 - c)
theorem wtd_b {A B g c : Nat} (h : A + B ≤ 40) (hg : g ≤ A + B) : 0 ≤ wtd A B g c ∧ wtd A B g c ≤ 100000000000000 := by
  have := sumZ_b (f := fun j => chI g (((c + j : Nat)) : Int) * chI (A + B - g) (((A : Nat) : Int) - (((c + j : Nat)) : Int))) (lo := 0) (hi := 1099511627776) (g + 1 - c) (fun j hj => by
    have b1 := chI_b (n := g) (by omega) (((c + j : Nat)) : Int)
    have b2 := chI_b (n := A + B - g) (by omega) (((A : Nat) : Int) - (((c + j : Nat)) : Int))
    refine ⟨Int.mul_nonneg b1.1 b2.1, Int.le_trans (Int.mul_le_mul b1.2 b2.2 b2.1 (by omega)) ?_⟩
    rw [← Int.natCast_mul, ← Nat.pow_add, show g + (A + B - g) = A + B by omega]
    have : 2 ^ (A + B) ≤ 2 ^ 40 := Nat.pow_le_pow_right (by decide) h
    omega)
  unfold wtd
  omega
theorem chP_all : (List.range 41).all (fun n => (List.range (n + 1)).all (fun k => decide (0 < chL n k k))) = true := by decide +kernel
theorem chI_p {n k : Nat} (hn : n ≤ 40) (hk : k ≤ n) : 0 < chI n ((k : Nat) : Int) ∧ chI n ((k : Nat) : Int) ≤ 1099511627776 := by
  have h := List.all_eq_true.mp (List.all_eq_true.mp chP_all n (List.mem_range.mpr (by omega))) k (List.mem_range.mpr (by omega))
  have h2 := of_decide_eq_true h
  have h3 := (chI_b hn ((k : Nat) : Int)).2
  have h4 : 2 ^ n ≤ 2 ^ 40 := Nat.pow_le_pow_right (by decide) hn
  rw [chI_in hk] at h3 ⊢
  omega
noncomputable def ansA (n : Nat) (q : Nat → Nat → Int) (a b m p : Int) : Int := if ¬ ((0 ≤ a ∧ a ≤ 2) ∧ (0 ≤ b ∧ b ≤ 2) ∧ a ≠ b) then -1000000000000000001 else if ¬ ((0 ≤ m ∧ m ≤ 90) ∧ (0 ≤ p ∧ p ≤ 1)) then -1000000000000000002 else frc (wtd (hM q n a 0) (hM q n b 0) (hM q n a m + hM q n b m) (hM q n a m)).toNat (chI (hM q n a 0 + hM q n b 0) ((hM q n a 0 : Nat) : Int)).toNat p
theorem ansA_1 {n : Nat} {q : Nat → Nat → Int} {a b m p : Int} (h : ¬ ((0 ≤ a ∧ a ≤ 2) ∧ (0 ≤ b ∧ b ≤ 2) ∧ a ≠ b)) : ansA n q a b m p = -1000000000000000001 := if_pos h
theorem ansA_2 {n : Nat} {q : Nat → Nat → Int} {a b m p : Int} (h : (0 ≤ a ∧ a ≤ 2) ∧ (0 ≤ b ∧ b ≤ 2) ∧ a ≠ b) (h2 : ¬ ((0 ≤ m ∧ m ≤ 90) ∧ (0 ≤ p ∧ p ≤ 1))) : ansA n q a b m p = -1000000000000000002 := by
  unfold ansA
  rw [if_neg (fun z => z h), if_pos h2]
theorem ansA_3 {n : Nat} {q : Nat → Nat → Int} {a b m p : Int} (h : (0 ≤ a ∧ a ≤ 2) ∧ (0 ≤ b ∧ b ≤ 2) ∧ a ≠ b) (h2 : (0 ≤ m ∧ m ≤ 90) ∧ (0 ≤ p ∧ p ≤ 1)) : ansA n q a b m p = frc (wtd (hM q n a 0) (hM q n b 0) (hM q n a m + hM q n b m) (hM q n a m)).toNat (chI (hM q n a 0 + hM q n b 0) ((hM q n a 0 : Nat) : Int)).toNat p := by
  unfold ansA
  rw [if_neg (fun z => z h), if_neg (fun z => z h2)]

set_option maxRecDepth 100000 in
set_option maxHeartbeats 4000000 in
theorem t_X9_alike {nx : Nat} {h : Nat → Option PC} {n : Nat} {q : Nat → Nat → Int} {o : Nat → Nat} {ta : Nat → Int} {fc : Nat} {a : Int} {b : Int} {m : Int} {p : Int} (hQ : isQ h n q o) (hO : okQ n q o) (g34 : h 34 = some (oO 0 [zR 35])) (g35 : h 35 = some (oA 0 91 ta)) (h0 : h 0 = some (oO 8 [zR 1, zR 2, zR 11, zR 34, zR 36, zR 42, zR 44, zI ((fc : Nat) : Int), zR 45, zR 48])) (ri_a : r32 a) (ri_b : r32 b) (ri_m : r32 m) (ri_p : r32 p) : Cx 3 (0, 0) yX9_alike cX9_alike 11 (some .long) [zR 0, zI a, zI b, zI m, zI p] nx h (Rt (zJ (ansA n q a b m p)) nx []) := by
  refine cx_of pnX9_alike (Nat.le_of_ble_eq_true rfl) ?_
  intro K G hr hnm hR
  obtain ⟨h2, h3, h4, h5, h6, h7, h8, h9, h10⟩ := id hQ
  have hn40 := hO.1
  show Wp K 11 (Mx K h (Rt (zJ (ansA n q a b m p)) nx []) (0, 0)) (0, 0) 0 [(0, zR 0), (1, zI a), (2, zI b), (3, zI m), (4, zI p)] [] (nx, h, [])
  refine wp_iload_n G 1 dX9_alike_0 rfl ?_
  refine wp_cSE (as := [zI a]) (rest := []) (hp2 := (nx, h, [])) G mX9_isList lX9_72 sX9_isList dX9_alike_1 rfl rfl (Nat.le_of_ble_eq_true rfl) (rmx_ok hR (by decide) (by decide) (by decide) (by decide)) (t_X9_isList (nx := nx) (v := a) (by omega)) rfl ?_
  refine wp_ifeq_bt G dX9_alike_4 (fun kq1 => ?_) (fun kq1 => ?_)
  · skip
    refine wp_ldc2 (z := -1000000000000000001) G kX9_164 dX9_alike_19 ?_
    exact wp_lreturn G hr dX9_alike_22 ⟨by first | (rw [ansA_1 (by omega)]; done) | (rw [ansA_2 (by omega) (by omega)]; done), rfl, by rfl⟩
  · skip
    refine wp_iload_n G 2 dX9_alike_7 rfl ?_
    refine wp_cSE (as := [zI b]) (rest := []) (hp2 := (nx, h, [])) G mX9_isList lX9_72 sX9_isList dX9_alike_8 rfl rfl (Nat.le_of_ble_eq_true rfl) (rmx_ok hR (by decide) (by decide) (by decide) (by decide)) (t_X9_isList (nx := nx) (v := b) (by omega)) rfl ?_
    refine wp_ifeq_bt G dX9_alike_11 (fun kq2 => ?_) (fun kq2 => ?_)
    · skip
      refine wp_ldc2 (z := -1000000000000000001) G kX9_164 dX9_alike_19 ?_
      exact wp_lreturn G hr dX9_alike_22 ⟨by first | (rw [ansA_1 (by omega)]; done) | (rw [ansA_2 (by omega) (by omega)]; done), rfl, by rfl⟩
    · skip
      refine wp_iload_n G 1 dX9_alike_14 rfl ?_
      refine wp_iload_n G 2 dX9_alike_15 rfl ?_
      refine wp_icmp_ne G dX9_alike_16 (by omega) (by omega) (fun kq3 => ?_) (fun kq3 => ?_)
      · skip
        refine wp_iload_n G 3 dX9_alike_23 rfl ?_
        refine wp_cSE (as := [zI m]) (rest := []) (hp2 := (nx, h, [])) G mX9_isGreatness lX9_83 sX9_isGreatness dX9_alike_24 rfl rfl (Nat.le_of_ble_eq_true rfl) (rmx_ok hR (by decide) (by decide) (by decide) (by decide)) (t_X9_isGreatness (nx := nx) (v := m) (by omega)) rfl ?_
        refine wp_ifeq_bt G dX9_alike_27 (fun kq4 => ?_) (fun kq4 => ?_)
        · skip
          refine wp_ldc2 (z := -1000000000000000002) G kX9_169 dX9_alike_38 ?_
          exact wp_lreturn G hr dX9_alike_41 ⟨by first | (rw [ansA_1 (by omega)]; done) | (rw [ansA_2 (by omega) (by omega)]; done), rfl, by rfl⟩
        · skip
          refine wp_iload G 4 dX9_alike_30 rfl ?_
          refine wp_cSE (as := [zI p]) (rest := []) (hp2 := (nx, h, [])) G mX9_isPart lX9_166 sX9_isPart dX9_alike_32 rfl rfl (Nat.le_of_ble_eq_true rfl) (rmx_ok hR (by decide) (by decide) (by decide) (by decide)) (t_X9_isPart (nx := nx) (v := p) (by omega)) rfl ?_
          refine wp_ifne_bt G dX9_alike_35 (fun kq5 => ?_) (fun kq5 => ?_)
          · skip
            have hA40 : hM q n a 0 + hM q n b 0 ≤ 40 := hM_2 hO (by omega)
            have hAm : hM q n a m ≤ hM q n a 0 := hM_m (by omega)
            have hBm : hM q n b m ≤ hM q n b 0 := hM_m (by omega)
            have hwb := wtd_b (A := hM q n a 0) (B := hM q n b 0) (g := hM q n a m + hM q n b m) (c := hM q n a m) hA40 (by omega)
            have hcp := chI_p (n := hM q n a 0 + hM q n b 0) (k := hM q n a 0) hA40 (by omega)
            refine wp_aload_n G 0 dX9_alike_42 rfl ?_
            refine wp_get G 3 cOk8 fX9_30 dX9_alike_43 h0 rfl ?_
            refine wp_aload_n G 0 dX9_alike_46 rfl ?_
            refine wp_get G 1 cOk8 fX9_16 dX9_alike_47 h0 rfl ?_
            refine wp_iload_n G 1 dX9_alike_50 rfl ?_
            refine wp_sipush G dX9_alike_51 (by decide) ?_
            refine wp_iconst G dX9_alike_54 ?_
            refine wp_cVE (b := 34) (ci := 0) (as := [zR 2, zI a, zI 3999, zI 0]) (rest := []) (hp2 := (nx, h, [])) G mX0_howMany lX9_156 iX0_howMany eX0_howMany ⟨_, rfl, rfl⟩ dX9_alike_55 g34 rfl rfl (Nat.le_of_ble_eq_true rfl) (rmx_ok hR (by decide) (by decide) (by decide) (by decide)) (t_X0_howMany (nx := nx) (a := a) (b := 3999) (m := 0) hQ hO g34 g35 ri_a (by omega) (by omega)) rfl ?_
            rw [hM_e q n a 0]
            refine wp_istore (lv' := [(5, zI ((hM q n a 0 : Nat) : Int)), (0, zR 0), (1, zI a), (2, zI b), (3, zI m), (4, zI p)]) G dX9_alike_58 (by decide) rfl ?_
            refine wp_aload_n G 1 dX9_alike_60 rfl ?_
            refine wp_get G 3 cOk8 fX9_30 dX9_alike_61 h0 rfl ?_
            refine wp_aload_n G 1 dX9_alike_64 rfl ?_
            refine wp_get G 1 cOk8 fX9_16 dX9_alike_65 h0 rfl ?_
            refine wp_iload_n G 3 dX9_alike_68 rfl ?_
            refine wp_sipush G dX9_alike_69 (by decide) ?_
            refine wp_iconst G dX9_alike_72 ?_
            refine wp_cVE (b := 34) (ci := 0) (as := [zR 2, zI b, zI 3999, zI 0]) (rest := []) (hp2 := (nx, h, [])) G mX0_howMany lX9_156 iX0_howMany eX0_howMany ⟨_, rfl, rfl⟩ dX9_alike_73 g34 rfl rfl (Nat.le_of_ble_eq_true rfl) (rmx_ok hR (by decide) (by decide) (by decide) (by decide)) (t_X0_howMany (nx := nx) (a := b) (b := 3999) (m := 0) hQ hO g34 g35 ri_b (by omega) (by omega)) rfl ?_
            rw [hM_e q n b 0]
            refine wp_istore (lv' := [(6, zI ((hM q n b 0 : Nat) : Int)), (5, zI ((hM q n a 0 : Nat) : Int)), (0, zR 0), (1, zI a), (2, zI b), (3, zI m), (4, zI p)]) G dX9_alike_76 (by decide) rfl ?_
            refine wp_aload_n G 2 dX9_alike_78 rfl ?_
            refine wp_get G 3 cOk8 fX9_30 dX9_alike_79 h0 rfl ?_
            refine wp_aload_n G 2 dX9_alike_82 rfl ?_
            refine wp_get G 1 cOk8 fX9_16 dX9_alike_83 h0 rfl ?_
            refine wp_iload_n G 3 dX9_alike_86 rfl ?_
            refine wp_sipush G dX9_alike_87 (by decide) ?_
            refine wp_iload_n G 5 dX9_alike_90 rfl ?_
            refine wp_cVE (b := 34) (ci := 0) (as := [zR 2, zI a, zI 3999, zI m]) (rest := []) (hp2 := (nx, h, [])) G mX0_howMany lX9_156 iX0_howMany eX0_howMany ⟨_, rfl, rfl⟩ dX9_alike_91 g34 rfl rfl (Nat.le_of_ble_eq_true rfl) (rmx_ok hR (by decide) (by decide) (by decide) (by decide)) (t_X0_howMany (nx := nx) (a := a) (b := 3999) (m := m) hQ hO g34 g35 ri_a (by omega) ri_m) rfl ?_
            rw [hM_e q n a m]
            refine wp_istore (lv' := [(7, zI ((hM q n a m : Nat) : Int)), (6, zI ((hM q n b 0 : Nat) : Int)), (5, zI ((hM q n a 0 : Nat) : Int)), (0, zR 0), (1, zI a), (2, zI b), (3, zI m), (4, zI p)]) G dX9_alike_94 (by decide) rfl ?_
            refine wp_aload_n G 3 dX9_alike_96 rfl ?_
            refine wp_get G 3 cOk8 fX9_30 dX9_alike_97 h0 rfl ?_
            refine wp_aload_n G 3 dX9_alike_100 rfl ?_
            refine wp_get G 1 cOk8 fX9_16 dX9_alike_101 h0 rfl ?_
            refine wp_iload_n G 5 dX9_alike_104 rfl ?_
            refine wp_sipush G dX9_alike_105 (by decide) ?_
            refine wp_iload_n G 6 dX9_alike_108 rfl ?_
            refine wp_cVE (b := 34) (ci := 0) (as := [zR 2, zI b, zI 3999, zI m]) (rest := []) (hp2 := (nx, h, [])) G mX0_howMany lX9_156 iX0_howMany eX0_howMany ⟨_, rfl, rfl⟩ dX9_alike_109 g34 rfl rfl (Nat.le_of_ble_eq_true rfl) (rmx_ok hR (by decide) (by decide) (by decide) (by decide)) (t_X0_howMany (nx := nx) (a := b) (b := 3999) (m := m) hQ hO g34 g35 ri_b (by omega) ri_m) rfl ?_
            rw [hM_e q n b m]
            refine wp_istore (lv' := [(8, zI ((hM q n b m : Nat) : Int)), (7, zI ((hM q n a m : Nat) : Int)), (6, zI ((hM q n b 0 : Nat) : Int)), (5, zI ((hM q n a 0 : Nat) : Int)), (0, zR 0), (1, zI a), (2, zI b), (3, zI m), (4, zI p)]) G dX9_alike_112 (by decide) rfl ?_
            refine wp_iload G 3 dX9_alike_114 rfl ?_
            refine wp_iload G 2 dX9_alike_116 rfl ?_
            refine wp_iload G 1 dX9_alike_118 rfl ?_
            refine wp_iload G 0 dX9_alike_120 rfl ?_
            refine wp_iadd G dX9_alike_122 ?_
            refine wp_iload G 1 dX9_alike_123 rfl ?_
            rw [show ((((hM q n a m : Nat) : Int) + ((hM q n b m : Nat) : Int)) : Int) = ((hM q n a m + hM q n b m : Nat) : Int) by omega]
            refine wp_cSE (as := [zI ((hM q n a 0 : Nat) : Int), zI ((hM q n b 0 : Nat) : Int), zI ((hM q n a m + hM q n b m : Nat) : Int), zI ((hM q n a m : Nat) : Int)]) (rest := []) (hp2 := (nx, h, [])) G mX5_waysToDeal lX9_184 sX5_waysToDeal dX9_alike_125 rfl rfl (Nat.le_of_ble_eq_true rfl) (rmx_ok hR (by decide) (by decide) (by decide) (by decide)) (t_X5_waysToDeal (nx := nx) (A := (hM q n a 0)) (B := (hM q n b 0)) (g := (hM q n a m + hM q n b m)) (c := (hM q n a m)) (by omega) (by omega) (by omega) (by omega)) rfl ?_
            refine wp_lstore (lv' := [(9, zJ (wtd (hM q n a 0) (hM q n b 0) (hM q n a m + hM q n b m) (hM q n a m))), (8, zI ((hM q n b m : Nat) : Int)), (7, zI ((hM q n a m : Nat) : Int)), (6, zI ((hM q n b 0 : Nat) : Int)), (5, zI ((hM q n a 0 : Nat) : Int)), (0, zR 0), (1, zI a), (2, zI b), (3, zI m), (4, zI p)]) G dX9_alike_128 (by decide) rfl ?_
            refine wp_lload G 0 dX9_alike_130 rfl ?_
            refine wp_iload G 4 dX9_alike_132 rfl ?_
            refine wp_iload G 3 dX9_alike_134 rfl ?_
            refine wp_iadd G dX9_alike_136 ?_
            refine wp_iload G 4 dX9_alike_137 rfl ?_
            rw [show ((((hM q n a 0 : Nat) : Int) + ((hM q n b 0 : Nat) : Int)) : Int) = ((hM q n a 0 + hM q n b 0 : Nat) : Int) by omega]
            refine wp_cSE (as := [zI ((hM q n a 0 + hM q n b 0 : Nat) : Int), zI ((hM q n a 0 : Nat) : Int)]) (rest := [zJ (wtd (hM q n a 0) (hM q n b 0) (hM q n a m + hM q n b m) (hM q n a m))]) (hp2 := (nx, h, [])) G mX5_choose lX9_188 sX5_choose dX9_alike_139 rfl rfl (Nat.le_of_ble_eq_true rfl) (rmx_ok hR (by decide) (by decide) (by decide) (by decide)) (t_X5_choose (nx := nx) (n := (hM q n a 0 + hM q n b 0)) (k := ((hM q n a 0 : Nat) : Int)) (by omega) (by omega)) rfl ?_
            refine wp_iload G 9 dX9_alike_142 rfl ?_
            rw [show ((wtd (hM q n a 0) (hM q n b 0) (hM q n a m + hM q n b m) (hM q n a m)) : Int) = (((wtd (hM q n a 0) (hM q n b 0) (hM q n a m + hM q n b m) (hM q n a m)).toNat : Nat) : Int) by omega]
            rw [show (chI (hM q n a 0 + hM q n b 0) ((hM q n a 0 : Nat) : Int) : Int) = (((chI (hM q n a 0 + hM q n b 0) ((hM q n a 0 : Nat) : Int)).toNat : Nat) : Int) by omega]
            refine wp_cSE (as := [zJ (((((wtd (hM q n a 0) (hM q n b 0) (hM q n a m + hM q n b m) (hM q n a m)).toNat : Nat) : Int).toNat : Nat) : Int), zJ ((((((chI (hM q n a 0 + hM q n b 0) ((hM q n a 0 : Nat) : Int)).toNat : Nat) : Int)).toNat : Nat) : Int), zI p]) (rest := []) (hp2 := (nx, h, [])) G mX5_partOf lX9_178 sX5_partOf dX9_alike_144 rfl rfl (Nat.le_of_ble_eq_true rfl) (rmx_ok hR (by decide) (by decide) (by decide) (by decide)) (t_X5_partOf (nx := nx) (a := ((((wtd (hM q n a 0) (hM q n b 0) (hM q n a m + hM q n b m) (hM q n a m)).toNat : Nat) : Int).toNat)) (b := (((((chI (hM q n a 0 + hM q n b 0) ((hM q n a 0 : Nat) : Int)).toNat : Nat) : Int)).toNat)) (p := p) (by omega) (by omega) (by omega) ri_p) rfl ?_
            exact wp_lreturn G hr dX9_alike_147 ⟨by rw [ansA_3 (by omega) (by omega)]; simp only [Int.toNat_natCast], rfl, by rfl⟩
          · skip
            refine wp_ldc2 (z := -1000000000000000002) G kX9_169 dX9_alike_38 ?_
            exact wp_lreturn G hr dX9_alike_41 ⟨by first | (rw [ansA_1 (by omega)]; done) | (rw [ansA_2 (by omega) (by omega)]; done), rfl, by rfl⟩
      · skip
        refine wp_ldc2 (z := -1000000000000000001) G kX9_164 dX9_alike_19 ?_
        exact wp_lreturn G hr dX9_alike_22 ⟨by first | (rw [ansA_1 (by omega)]; done) | (rw [ansA_2 (by omega) (by omega)]; done), rfl, by rfl⟩

