theorem sum_ins {f : Nat → Int} {P : Nat → Prop} {i0 : Nat} (hn : ¬ P i0) : ∀ m, sumZ (fun i => ifZ (P i ∨ i = i0) (f i) 0) m = sumZ (fun i => ifZ (P i) (f i) 0) m + (if i0 < m then f i0 else 0)
  | 0 => by rw [if_neg (Nat.not_lt_zero _)]; rfl
  | m + 1 => by
    rw [sumZ_s, sumZ_s, sum_ins hn m]
    by_cases e : m = i0
    · subst e
      rw [ifZ_y (Or.inr rfl), ifZ_n hn, if_neg (Nat.lt_irrefl _), if_pos (Nat.lt_succ_self _)]
      try omega
    · rw [show ifZ (P m ∨ m = i0) (f m) 0 = ifZ (P m) (f m) 0 from ifZ_iff ⟨fun z => z.resolve_right e, Or.inl⟩]
      by_cases c : i0 < m
      · rw [if_pos c, if_pos (by omega)]; omega
      · rw [if_neg c, if_neg (by omega)]; omega
theorem sum_img {f : Nat → Int} {o : Nat → Nat} {m : Nat} : ∀ n, (∀ p, p < n → o p < m) → (∀ p r, p < r → r < n → o p ≠ o r) → sumZ (fun r => f (o r)) n = sumZ (fun i => ifZ (∃ r, r < n ∧ o r = i) (f i) 0) m
  | 0, _, _ => (sumZ_0 (a := 0) m (Nat.zero_le _) (fun j _ _ => ifZ_n (fun ⟨r, h, _⟩ => absurd h (Nat.not_lt_zero _)))).symm
  | n + 1, h1, h2 => by
    rw [sumZ_s, sum_img n (fun p hp => h1 p (by omega)) (fun p r a b => h2 p r a (by omega))]
    have hn : ¬ ∃ r, r < n ∧ o r = o n := fun ⟨r, a, b⟩ => h2 r n a (by omega) b
    have := sum_ins (f := f) (P := fun i => ∃ r, r < n ∧ o r = i) hn m
    rw [if_pos (h1 n (by omega))] at this
    rw [← this]
    refine sumZ_congr m (fun i _ => ifZ_iff ⟨?_, ?_⟩)
    · rintro (⟨r, a, b⟩ | e)
      · exact ⟨r, by omega, b⟩
      · exact ⟨n, by omega, e.symm⟩
    · rintro ⟨r, a, b⟩
      by_cases e : r = n
      · exact Or.inr (by rw [← b, e])
      · exact Or.inl ⟨r, by omega, b⟩
theorem sum_perm {n : Nat} {q : Nat → Nat → Int} {o : Nat → Nat} (hO : okQ n q o) (f : Nat → Int) : sumZ (fun r => f (o r)) n = sumZ f n := by
  rw [sum_img (m := n) n hO.o (fun p r a b => ahd_ne (hO.2.2.2.1 p r a b))]
  exact sumZ_congr n (fun i hi => ifZ_y (hO.2.2.2.2 i hi))
theorem cnt_perm {n : Nat} {q : Nat → Nat → Int} {o : Nat → Nat} (hO : okQ n q o) (P : Nat → Prop) : cntZ (fun r => P (o r)) n = cntZ P n := by
  rw [cnt_sum, cnt_sum]
  exact sum_perm hO (fun j => bt (P j))
theorem all_w {n : Nat} {q : Nat → Nat → Int} {o : Nat → Nat} {pr fa sp : Nat → Int} {b : Int} {p : Nat} (hO : okQ n q o) (hp : p < n) : sumZ (fun i => ifZ (cnd q (-1) b i ∧ ahd q i (o p)) (wgt pr fa sp q i (q 2 (o p)) (q 3 (o p)) (q 1 (o p))) 0) n = sumZ (fun r => ifZ (cnd q (-1) b (o r)) (wpl pr fa sp q o p r) 0) p := by
  rw [← sum_perm hO]
  rw [sumZ_0 (a := p) n (by omega) (fun r h1 h2 => ifZ_n (fun z => by have := (ahd_lt hO h2 hp).mp z.2; omega))]
  refine sumZ_congr p (fun r hr => ?_)
  unfold wpl
  exact ifZ_iff ⟨fun z => z.1, fun z => ⟨z, (ahd_lt hO (by omega) hp).mpr hr⟩⟩
noncomputable def whX (q : Nat → Nat → Int) (n : Nat) (v b z : Int) : Int := if 0 ≤ v ∧ v < ((n : Nat) : Int) then (if (0 ≤ b ∧ b ≤ 3999) ∧ z ≠ 0 then ifZ (cnd q (-1) b v.toNat) 0 (-3) else -2) else -1
theorem whX_r1 {q : Nat → Nat → Int} {n : Nat} {v b z : Int} (h : ¬ (0 ≤ v ∧ v < ((n : Nat) : Int))) : whX q n v b z = -1 := if_neg h
theorem whX_r2 {q : Nat → Nat → Int} {n : Nat} {v b z : Int} (h : 0 ≤ v ∧ v < ((n : Nat) : Int)) (h2 : ¬ ((0 ≤ b ∧ b ≤ 3999) ∧ z ≠ 0)) : whX q n v b z = -2 := by rw [whX, if_pos h, if_neg h2]
theorem whX_r3 {q : Nat → Nat → Int} {n : Nat} {v b z : Int} (h : 0 ≤ v ∧ v < ((n : Nat) : Int)) (h2 : (0 ≤ b ∧ b ≤ 3999) ∧ z ≠ 0) (h3 : ¬ cnd q (-1) b v.toNat) : whX q n v b z = -3 := by rw [whX, if_pos h, if_pos h2, ifZ_n h3]
theorem whX_r0 {q : Nat → Nat → Int} {n : Nat} {v b z : Int} (h : 0 ≤ v ∧ v < ((n : Nat) : Int)) (h2 : (0 ≤ b ∧ b ≤ 3999) ∧ z ≠ 0) (h3 : cnd q (-1) b v.toNat) : whX q n v b z = 0 := by rw [whX, if_pos h, if_pos h2, ifZ_y h3]
theorem whX_b (q : Nat → Nat → Int) (n : Nat) (v b z : Int) : -3 ≤ whX q n v b z ∧ whX q n v b z ≤ 0 := by
  by_cases h : 0 ≤ v ∧ v < ((n : Nat) : Int)
  · by_cases h2 : (0 ≤ b ∧ b ≤ 3999) ∧ z ≠ 0
    · by_cases h3 : cnd q (-1) b v.toNat
      · rw [whX_r0 h h2 h3]; omega
      · rw [whX_r3 h h2 h3]; omega
    · rw [whX_r2 h h2]; omega
  · rw [whX_r1 h]; omega
theorem whX_0 {q : Nat → Nat → Int} {n : Nat} {v b z : Int} (e : whX q n v b z = 0) : (0 ≤ v ∧ v < ((n : Nat) : Int)) ∧ (0 ≤ b ∧ b ≤ 3999) ∧ z ≠ 0 ∧ cnd q (-1) b v.toNat := by
  by_cases h : 0 ≤ v ∧ v < ((n : Nat) : Int)
  · by_cases h2 : (0 ≤ b ∧ b ≤ 3999) ∧ z ≠ 0
    · by_cases h3 : cnd q (-1) b v.toNat
      · exact ⟨h, h2.1, h2.2, h3⟩
      · rw [whX_r3 h h2 h3] at e; omega
    · rw [whX_r2 h h2] at e; omega
  · rw [whX_r1 h] at e; omega
theorem whX_N (q : Nat → Nat → Int) (n : Nat) (v b : Int) : whN q n v b = whX q n v b 1 := by
  unfold whN whX
  by_cases h : 0 ≤ v ∧ v < ((n : Nat) : Int)
  · rw [if_pos h, if_pos h]
    by_cases h2 : 0 ≤ b ∧ b ≤ 3999
    · rw [if_pos h2, if_pos ⟨h2, by decide⟩]
    · rw [if_neg h2, if_neg (fun z => h2 z.1)]
  · rw [if_neg h, if_neg h]
theorem wif_b {pr fa sp : Nat → Int} {q : Nat → Nat → Int} {n p r : Nat} {o : Nat → Nat} {b : Int} (hS : okS pr fa sp) (hO : okQ n q o) (hr : r < n) : 0 ≤ ifZ (cnd q (-1) b (o r) ∧ r < p) (wpl pr fa sp q o p r) 0 ∧ ifZ (cnd q (-1) b (o r) ∧ r < p) (wpl pr fa sp q o p r) 0 ≤ 1000000 := by
  have hz := wpl_b (p := p) hS hO hr
  by_cases c : cnd q (-1) b (o r) ∧ r < p
  · rw [ifZ_y c]; exact hz
  · rw [ifZ_n c]; decide
theorem t_X5_partOfI {nx : Nat} {h : Nat → Option PC} {a b p : Int} (ha : 0 ≤ a ∧ a < 1152921504606846976) (hb : 0 < b ∧ b < 1152921504606846976) (ri_p : r32 p) : Cx 1 (0, 0) yX5_partOf cX5_partOf 7 (some .long) [zJ a, zJ b, zI p] nx h (Rt (zJ (frc a.toNat b.toNat p)) nx []) := by
  obtain ⟨x, rfl⟩ := Int.eq_ofNat_of_zero_le ha.1
  obtain ⟨y, rfl⟩ := Int.eq_ofNat_of_zero_le (Int.le_of_lt hb.1)
  rw [Int.toNat_natCast, Int.toNat_natCast]
  exact t_X5_partOf (by omega) (by omega) (by omega) ri_p
theorem t_X10_lowestI {nx : Nat} {h : Nat → Option PC} {a b p : Int} (ha : 0 ≤ a ∧ a < 1152921504606846976) (hb : 0 < b ∧ b < 1152921504606846976) (ri_p : r32 p) : Cx 0 (0, 0) yX10_lowest cX10_lowest 11 (some .long) [zJ a, zJ b, zI p] nx h (Rt (zJ (frc a.toNat b.toNat p)) nx []) := by
  obtain ⟨x, rfl⟩ := Int.eq_ofNat_of_zero_le ha.1
  obtain ⟨y, rfl⟩ := Int.eq_ofNat_of_zero_le (Int.le_of_lt hb.1)
  rw [Int.toNat_natCast, Int.toNat_natCast]
  exact t_X10_lowest (by omega) (by omega) (by omega) ri_p
noncomputable def ansR (n : Nat) (q : Nat → Nat → Int) (st pr fa sp : Nat → Int) (x y d b : Int) : Int := if ¬ ((0 ≤ x ∧ x ≤ 15) ∧ (0 ≤ y ∧ y ≤ 15)) then -1 else if ¬ ((0 ≤ d ∧ d ≤ 3999) ∧ (0 ≤ b ∧ b ≤ 3999)) then -2 else st 3 + sumZ (fun i => ifZ (q 1 i < d ∧ cnd q (-1) b i) (wgt pr fa sp q i x y d) 0) n
noncomputable def ansM (n : Nat) (q : Nat → Nat → Int) (o : Nat → Nat) (st pr fa sp : Nat → Int) (v b : Int) : Int := if whX q n v b 1 = 0 then (lik pr fa sp q o b (st 3) (plc n o v.toNat).toNat (plc n o v.toNat).toNat).1 else whX q n v b 1
noncomputable def ansD (n : Nat) (q : Nat → Nat → Int) (o : Nat → Nat) (st pr fa sp : Nat → Int) (s v b : Int) : Int := if whX q n v b (bt (1 ≤ s ∧ s ≤ 1000000)) = 0 then srch (fun r => 0 ≤ (Int.tmod (mvF (fun r => cnd q (-1) b (o r)) s ((plc n o v.toNat).toNat + 1)) (st 3 + sumZ (fun r => ifZ (cnd q (-1) b (o r)) (wpl pr fa sp q o (plc n o v.toNat).toNat r) 0) (plc n o v.toNat).toNat) - st 3) - sumZ (fun r => ifZ (cnd q (-1) b (o r)) (wpl pr fa sp q o (plc n o v.toNat).toNat r) 0) r ∧ (Int.tmod (mvF (fun r => cnd q (-1) b (o r)) s ((plc n o v.toNat).toNat + 1)) (st 3 + sumZ (fun r => ifZ (cnd q (-1) b (o r)) (wpl pr fa sp q o (plc n o v.toNat).toNat r) 0) (plc n o v.toNat).toNat) - st 3) - sumZ (fun r => ifZ (cnd q (-1) b (o r)) (wpl pr fa sp q o (plc n o v.toNat).toNat r) 0) (r + 1) < 0) (fun r => ((o r : Nat) : Int)) (plc n o v.toNat).toNat else whX q n v b (bt (1 ≤ s ∧ s ≤ 1000000))
noncomputable def shW (q : Nat → Nat → Int) (st pr fa sp : Nat → Int) (w b : Int) (j : Nat) : Int := if w = -1 then st 3 else ifZ (cnd q (-1) b w.toNat ∧ ahd q w.toNat j) (wgt pr fa sp q w.toNat (q 2 j) (q 3 j) (q 1 j)) 0
noncomputable def ansH (n : Nat) (q : Nat → Nat → Int) (st pr fa sp : Nat → Int) (v w b e : Int) : Int := if ¬ ((0 ≤ v ∧ v < ((n : Nat) : Int)) ∧ (w = -1 ∨ (0 ≤ w ∧ w < ((n : Nat) : Int)))) then -1000000000000000001 else if ¬ ((0 ≤ b ∧ b ≤ 3999) ∧ (0 ≤ e ∧ e ≤ 1)) then -1000000000000000002 else ifZ (cnd q (-1) b v.toNat) (frc (shW q st pr fa sp w b v.toNat).toNat (st 3 + sumZ (fun i => ifZ (cnd q (-1) b i ∧ ahd q i v.toNat) (wgt pr fa sp q i (q 2 v.toNat) (q 3 v.toNat) (q 1 v.toNat)) 0) n).toNat e) (-1000000000000000003)
theorem ansH_4 {n : Nat} {q : Nat → Nat → Int} {st pr fa sp : Nat → Int} {w b e : Int} {j : Nat} {A B : Int} (h1 : j < n) (h2 : w = -1 ∨ (0 ≤ w ∧ w < ((n : Nat) : Int))) (h3 : (0 ≤ b ∧ b ≤ 3999) ∧ (0 ≤ e ∧ e ≤ 1)) (h4 : cnd q (-1) b j) (eA : A = shW q st pr fa sp w b j) (eB : B = st 3 + sumZ (fun i => ifZ (cnd q (-1) b i ∧ ahd q i j) (wgt pr fa sp q i (q 2 j) (q 3 j) (q 1 j)) 0) n) : frc A.toNat B.toNat e = ansH n q st pr fa sp ((j : Nat) : Int) w b e := by
  unfold ansH
  rw [if_neg (fun z => z ⟨by omega, h2⟩), if_neg (fun z => z h3)]
  simp only [Int.toNat_natCast]
  rw [ifZ_y h4, eA, eB]

set_option maxRecDepth 100000 in
set_option maxHeartbeats 4000000 in
theorem t_X9_refusalOfDaughter {nx : Nat} {h : Nat → Option PC} {n : Nat} {q : Nat → Nat → Int} {o : Nat → Nat} {fc : Nat} {v : Int} {b : Int} {z : Int} (hQ : isQ h n q o) (hO : okQ n q o) (h0 : h 0 = some (oO 8 [zR 1, zR 2, zR 11, zR 34, zR 36, zR 42, zR 44, zI ((fc : Nat) : Int), zR 45, zR 48])) (ri_v : r32 v) (ri_b : r32 b) (ri_z : r32 z) : Cx 2 (0, 0) yX9_refusalOfDaughter cX9_refusalOfDaughter 4 (some .int) [zR 0, zI v, zI b, zI z] nx h (Rt (zI (whX q n v b z)) nx []) := by
  refine cx_of pnX9_refusalOfDaughter (Nat.le_of_ble_eq_true rfl) ?_
  intro K G hr hnm hR
  obtain ⟨h2, h3, h4, h5, h6, h7, h8, h9, h10⟩ := id hQ
  have hn40 := hO.1
  show Wp K 4 (Mx K h (Rt (zI (whX q n v b z)) nx []) (0, 0)) (0, 0) 0 [(0, zR 0), (1, zI v), (2, zI b), (3, zI z)] [] (nx, h, [])
  refine wp_aload_n G 0 dX9_refusalOfDaughter_0 rfl ?_
  refine wp_get G 1 cOk8 fX9_16 dX9_refusalOfDaughter_1 h0 rfl ?_
  refine wp_iload_n G 1 dX9_refusalOfDaughter_4 rfl ?_
  refine wp_cVE (b := 2) (ci := 5) (as := [zI v]) (rest := []) (hp2 := (nx, h, [])) G mX6_has lX9_94 iX6_has eX6_has ⟨_, rfl, rfl⟩ dX9_refusalOfDaughter_5 h2 rfl rfl (Nat.le_of_ble_eq_true rfl) (rmx_ok hR (by decide) (by decide) (by decide) (by decide)) (t_X6_has (nx := nx) (v := v) hQ hO ri_v) rfl ?_
  refine wp_ifne_bt G dX9_refusalOfDaughter_8 (fun kq1 => ?_) (fun kq1 => ?_)
  · skip
    refine wp_iload_n G 2 dX9_refusalOfDaughter_13 rfl ?_
    refine wp_cSE (as := [zI b]) (rest := []) (hp2 := (nx, h, [])) G mX9_isDay lX9_80 sX9_isDay dX9_refusalOfDaughter_14 rfl rfl (Nat.le_of_ble_eq_true rfl) (rmx_ok hR (by decide) (by decide) (by decide) (by decide)) (t_X9_isDay (nx := nx) (v := b) (by omega)) rfl ?_
    refine wp_ifeq_bt G dX9_refusalOfDaughter_17 (fun kq2 => ?_) (fun kq2 => ?_)
    · skip
      refine wp_bipush G dX9_refusalOfDaughter_24 (by decide) ?_
      exact wp_ireturn G hr dX9_refusalOfDaughter_26 ⟨by first | (rw [whX_r1 (by omega)]; done) | (rw [whX_r2 (by omega) (by omega)]; done) | (rw [whX_r3 (by omega) (by omega) (by assumption)]; done) | (rw [whX_r0 (by omega) (by omega) (by assumption)]), rfl, by rfl⟩
    · skip
      refine wp_iload_n G 3 dX9_refusalOfDaughter_20 rfl ?_
      refine wp_if_ne G dX9_refusalOfDaughter_21 (by omega) (fun kq3 => ?_) (fun kq3 => ?_)
      · skip
        obtain ⟨vv, e_vv⟩ := Int.eq_ofNat_of_zero_le (show 0 ≤ v from (by omega))
        subst e_vv
        refine wp_aload_n G 0 dX9_refusalOfDaughter_27 rfl ?_
        refine wp_get G 1 cOk8 fX9_16 dX9_refusalOfDaughter_28 h0 rfl ?_
        refine wp_iload_n G 1 dX9_refusalOfDaughter_31 rfl ?_
        refine wp_iconst G dX9_refusalOfDaughter_32 ?_
        refine wp_iload_n G 2 dX9_refusalOfDaughter_33 rfl ?_
        refine wp_cVE (b := 2) (ci := 5) (as := [zI ((vv : Nat) : Int), zI (-1), zI b]) (rest := []) (hp2 := (nx, h, [])) G mX6_isCounted lX9_202 iX6_isCounted eX6_isCounted ⟨_, rfl, rfl⟩ dX9_refusalOfDaughter_34 h2 rfl rfl (Nat.le_of_ble_eq_true rfl) (rmx_ok hR (by decide) (by decide) (by decide) (by decide)) (t_X6_isCounted (nx := nx) (j := vv) (a := (-1)) (b := b) hQ hO (by omega) (by omega) ri_b) rfl ?_
        refine wp_ifeq_bt G dX9_refusalOfDaughter_37 (fun kq4 => ?_) (fun kq4 => ?_)
        · skip
          refine wp_bipush G dX9_refusalOfDaughter_44 (by decide) ?_
          exact wp_ireturn G hr dX9_refusalOfDaughter_46 ⟨by first | (rw [whX_r1 (by omega)]; done) | (rw [whX_r2 (by omega) (by omega)]; done) | (rw [whX_r3 (by omega) (by omega) (by assumption)]; done) | (rw [whX_r0 (by omega) (by omega) (by assumption)]), rfl, by rfl⟩
        · skip
          refine wp_iconst G dX9_refusalOfDaughter_40 ?_
          refine wp_goto G dX9_refusalOfDaughter_41 ?_
          exact wp_ireturn G hr dX9_refusalOfDaughter_46 ⟨by first | (rw [whX_r1 (by omega)]; done) | (rw [whX_r2 (by omega) (by omega)]; done) | (rw [whX_r3 (by omega) (by omega) (by assumption)]; done) | (rw [whX_r0 (by omega) (by omega) (by assumption)]), rfl, by rfl⟩
      · skip
        refine wp_bipush G dX9_refusalOfDaughter_24 (by decide) ?_
        exact wp_ireturn G hr dX9_refusalOfDaughter_26 ⟨by first | (rw [whX_r1 (by omega)]; done) | (rw [whX_r2 (by omega) (by omega)]; done) | (rw [whX_r3 (by omega) (by omega) (by assumption)]; done) | (rw [whX_r0 (by omega) (by omega) (by assumption)]), rfl, by rfl⟩
  · skip
    refine wp_iconst G dX9_refusalOfDaughter_11 ?_
    exact wp_ireturn G hr dX9_refusalOfDaughter_12 ⟨by first | (rw [whX_r1 (by omega)]; done) | (rw [whX_r2 (by omega) (by omega)]; done) | (rw [whX_r3 (by omega) (by omega) (by assumption)]; done) | (rw [whX_r0 (by omega) (by omega) (by assumption)]), rfl, by rfl⟩

set_option maxRecDepth 100000 in
set_option maxHeartbeats 4000000 in
theorem t_X9_rate {nx : Nat} {h : Nat → Option PC} {n : Nat} {q : Nat → Nat → Int} {o : Nat → Nat} {pr : Nat → Int} {fa : Nat → Int} {sp : Nat → Int} {fo : Nat → Int} {de : Nat → Int} {fc : Nat} {st : Nat → Int} {x : Int} {y : Int} {d : Int} {b : Int} (hQ : isQ h n q o) (hO : okQ n q o) (hM : isMo h pr fa sp fo de) (hS : okS pr fa sp) (h0 : h 0 = some (oO 8 [zR 1, zR 2, zR 11, zR 34, zR 36, zR 42, zR 44, zI ((fc : Nat) : Int), zR 45, zR 48])) (h1 : h 1 = some (oA 0 5 st)) (hN : okN st) (ri_x : r32 x) (ri_y : r32 y) (ri_d : r32 d) (ri_b : r32 b) : Cx 4 (0, 0) yX9_rate cX9_rate 5 (some .int) [zR 0, zI x, zI y, zI d, zI b] nx h (Rt (zI (ansR n q st pr fa sp x y d b)) nx []) := by
  refine cx_of pnX9_rate (Nat.le_of_ble_eq_true rfl) ?_
  intro K G hr hnm hR
  obtain ⟨h2, h3, h4, h5, h6, h7, h8, h9, h10⟩ := id hQ
  have hn40 := hO.1
  obtain ⟨h36, h37, h38, h39, h40, h41⟩ := id hM
  obtain ⟨hN0, hN1, hN2, hN3, hN4⟩ := id hN
  show Wp K 5 (Mx K h (Rt (zI (ansR n q st pr fa sp x y d b)) nx []) (0, 0)) (0, 0) 0 [(0, zR 0), (1, zI x), (2, zI y), (3, zI d), (4, zI b)] [] (nx, h, [])
  refine wp_iload_n G 1 dX9_rate_0 rfl ?_
  refine wp_iload_n G 2 dX9_rate_1 rfl ?_
  refine wp_cSE (as := [zI x, zI y]) (rest := []) (hp2 := (nx, h, [])) G mX9_isCell lX9_76 sX9_isCell dX9_rate_2 rfl rfl (Nat.le_of_ble_eq_true rfl) (rmx_ok hR (by decide) (by decide) (by decide) (by decide)) (t_X9_isCell (nx := nx) (v := x) (w := y) (by omega) (by omega)) rfl ?_
  refine wp_ifne_bt G dX9_rate_5 (fun kq1 => ?_) (fun kq1 => ?_)
  · skip
    refine wp_iload_n G 3 dX9_rate_10 rfl ?_
    refine wp_cSE (as := [zI d]) (rest := []) (hp2 := (nx, h, [])) G mX9_isDay lX9_80 sX9_isDay dX9_rate_11 rfl rfl (Nat.le_of_ble_eq_true rfl) (rmx_ok hR (by decide) (by decide) (by decide) (by decide)) (t_X9_isDay (nx := nx) (v := d) (by omega)) rfl ?_
    refine wp_ifeq_bt G dX9_rate_14 (fun kq2 => ?_) (fun kq2 => ?_)
    · skip
      refine wp_bipush G dX9_rate_25 (by decide) ?_
      exact wp_ireturn G hr dX9_rate_27 ⟨by first | (rw [ansR, if_pos (by omega)]; done) | (rw [ansR, if_neg (by omega), if_pos (by omega)]; done) | (rw [ansR, if_neg (by omega), if_neg (by omega)]), rfl, by rfl⟩
    · skip
      refine wp_iload G 4 dX9_rate_17 rfl ?_
      refine wp_cSE (as := [zI b]) (rest := []) (hp2 := (nx, h, [])) G mX9_isDay lX9_80 sX9_isDay dX9_rate_19 rfl rfl (Nat.le_of_ble_eq_true rfl) (rmx_ok hR (by decide) (by decide) (by decide) (by decide)) (t_X9_isDay (nx := nx) (v := b) (by omega)) rfl ?_
      refine wp_ifne_bt G dX9_rate_22 (fun kq3 => ?_) (fun kq3 => ?_)
      · skip
        refine wp_aload_n G 0 dX9_rate_28 rfl ?_
        refine wp_get G 0 cOk8 fX9_7 dX9_rate_29 h0 rfl ?_
        refine wp_iconst G dX9_rate_32 ?_
        refine wp_iald (j := 3) G dX9_rate_33 h1 rfl (by decide) (by decide) ?_
        have rrq1 := hN.r 3 (by decide)
        refine wp_aload_n G 0 dX9_rate_34 rfl ?_
        refine wp_get G 4 cOk8 fX9_37 dX9_rate_35 h0 rfl ?_
        refine wp_aload_n G 0 dX9_rate_38 rfl ?_
        refine wp_get G 1 cOk8 fX9_16 dX9_rate_39 h0 rfl ?_
        refine wp_iload_n G 1 dX9_rate_42 rfl ?_
        refine wp_iload_n G 2 dX9_rate_43 rfl ?_
        refine wp_iload_n G 3 dX9_rate_44 rfl ?_
        refine wp_iload G 4 dX9_rate_45 rfl ?_
        refine wp_cVE (b := 36) (ci := 4) (as := [zR 2, zI x, zI y, zI d, zI b]) (rest := [zI (st 3)]) (hp2 := (nx, h, [])) G mX4_weightOn lX9_247 iX4_weightOn eX4_weightOn ⟨_, rfl, rfl⟩ dX9_rate_47 h36 rfl rfl (Nat.le_of_ble_eq_true rfl) (rmx_ok hR (by decide) (by decide) (by decide) (by decide)) (t_X4_weightOn (nx := nx) (x := x) (y := y) (d := d) (b := b) hQ hO hM hS (by omega) (by omega) (by omega) ri_b) rfl ?_
        refine wp_iadd G dX9_rate_50 ?_
        exact wp_ireturn G hr dX9_rate_51 ⟨by first | (rw [ansR, if_pos (by omega)]; done) | (rw [ansR, if_neg (by omega), if_pos (by omega)]; done) | (rw [ansR, if_neg (by omega), if_neg (by omega)]), rfl, by rfl⟩
      · skip
        refine wp_bipush G dX9_rate_25 (by decide) ?_
        exact wp_ireturn G hr dX9_rate_27 ⟨by first | (rw [ansR, if_pos (by omega)]; done) | (rw [ansR, if_neg (by omega), if_pos (by omega)]; done) | (rw [ansR, if_neg (by omega), if_neg (by omega)]), rfl, by rfl⟩
  · skip
    refine wp_iconst G dX9_rate_8 ?_
    exact wp_ireturn G hr dX9_rate_9 ⟨by first | (rw [ansR, if_pos (by omega)]; done) | (rw [ansR, if_neg (by omega), if_pos (by omega)]; done) | (rw [ansR, if_neg (by omega), if_neg (by omega)]), rfl, by rfl⟩

set_option maxRecDepth 100000 in
set_option maxHeartbeats 4000000 in
theorem t_X10_rate {nx : Nat} {h : Nat → Option PC} {n : Nat} {q : Nat → Nat → Int} {o : Nat → Nat} {fc : Nat} {hn : Nat} {ln : Nat} {ma : Int} {mb : Int} {st : Nat → Int} {pr : Nat → Int} {fa : Nat → Int} {sp : Nat → Int} {x : Int} {y : Int} {d : Int} {b : Int} (hQ : isM h n q o fc hn ln ma mb st) (hO : okQ n q o) (hN : okN st) (hMs : isMs h pr fa sp) (hS : okS pr fa sp) (ri_x : r32 x) (ri_y : r32 y) (ri_d : r32 d) (ri_b : r32 b) : Cx 3 (0, 0) yX10_rate cX10_rate 7 (some .int) [zR 64, zI x, zI y, zI d, zI b] nx h (Rt (zI (ansR n q st pr fa sp x y d b)) nx []) := by
  refine cx_of pnX10_rate (Nat.le_of_ble_eq_true rfl) ?_
  intro K G hr hnm hR
  obtain ⟨h64, h65, h66, h67, h68, h69, h70, h71, h72, h73⟩ := id hQ
  have hn40 := hO.1
  obtain ⟨hN0, hN1, hN2, hN3, hN4⟩ := id hN
  obtain ⟨h77, h78, h79⟩ := id hMs
  show Wp K 7 (Mx K h (Rt (zI (ansR n q st pr fa sp x y d b)) nx []) (0, 0)) (0, 0) 0 [(0, zR 64), (1, zI x), (2, zI y), (3, zI d), (4, zI b)] [] (nx, h, [])
  refine wp_iload_n G 1 dX10_rate_0 rfl ?_
  refine wp_iload_n G 2 dX10_rate_1 rfl ?_
  refine wp_cSE (as := [zI x, zI y]) (rest := []) (hp2 := (nx, h, [])) G mX10_isCell lX10_116 sX10_isCell dX10_rate_2 rfl rfl (Nat.le_of_ble_eq_true rfl) (rmx_ok hR (by decide) (by decide) (by decide) (by decide)) (t_X10_isCell (nx := nx) (v := x) (w := y) (by omega) (by omega)) rfl ?_
  refine wp_ifne_bt G dX10_rate_5 (fun kq1 => ?_) (fun kq1 => ?_)
  · skip
    refine wp_iload_n G 3 dX10_rate_10 rfl ?_
    refine wp_cSE (as := [zI d]) (rest := []) (hp2 := (nx, h, [])) G mX10_isDay lX10_120 sX10_isDay dX10_rate_11 rfl rfl (Nat.le_of_ble_eq_true rfl) (rmx_ok hR (by decide) (by decide) (by decide) (by decide)) (t_X10_isDay (nx := nx) (v := d) (by omega)) rfl ?_
    refine wp_ifeq_bt G dX10_rate_14 (fun kq2 => ?_) (fun kq2 => ?_)
    · skip
      refine wp_bipush G dX10_rate_25 (by decide) ?_
      exact wp_ireturn G hr dX10_rate_27 ⟨by first | (rw [ansR, if_pos (by omega)]; done) | (rw [ansR, if_neg (by omega), if_pos (by omega)]; done) | (rw [ansR, if_neg (by omega), if_neg (by omega)]), rfl, by rfl⟩
    · skip
      refine wp_iload G 4 dX10_rate_17 rfl ?_
      refine wp_cSE (as := [zI b]) (rest := []) (hp2 := (nx, h, [])) G mX10_isDay lX10_120 sX10_isDay dX10_rate_19 rfl rfl (Nat.le_of_ble_eq_true rfl) (rmx_ok hR (by decide) (by decide) (by decide) (by decide)) (t_X10_isDay (nx := nx) (v := b) (by omega)) rfl ?_
      refine wp_ifne_bt G dX10_rate_22 (fun kq3 => ?_) (fun kq3 => ?_)
      · skip
        refine wp_aload_n G 0 dX10_rate_28 rfl ?_
        refine wp_get G 8 cOk9 fX10_32 dX10_rate_29 h64 rfl ?_
        refine wp_iconst G dX10_rate_32 ?_
        refine wp_iald (j := 3) G dX10_rate_33 h72 rfl (by decide) (by decide) ?_
        have rrq1 := hN.r 3 (by decide)
        refine wp_istore (lv' := [(5, zI (st 3)), (0, zR 64), (1, zI x), (2, zI y), (3, zI d), (4, zI b)]) G dX10_rate_34 (by decide) rfl ?_
        refine wp_iconst G dX10_rate_36 ?_
        refine wp_istore (lv' := [(6, zI 0), (5, zI (st 3)), (0, zR 64), (1, zI x), (2, zI y), (3, zI d), (4, zI b)]) G dX10_rate_37 (by decide) rfl ?_
        refine wp_lv [2, 3, 4, 5, 6, 1, 0] rfl ?_
        suffices lp39 : ∀ (fu : Nat) (k : Nat) (v5 : Int) (v6 : Int), n - k < fu → (v5 = (st 3 + sumZ (fun i => ifZ (q 1 i < d ∧ cnd q (-1) b i) (wgt pr fa sp q i x y d) 0) k)) → (v6 = ((k : Nat) : Int)) → (k ≤ n) → Wp K 7 (Mx K h (Rt (zI (ansR n q st pr fa sp x y d b)) nx []) (0, 0)) (0, 0) 39 [(0, zR 64), (1, zI x), (2, zI y), (3, zI d), (4, zI b), (5, zI v5), (6, zI v6)] [] (nx, h, []) from lp39 _ 0 (st 3) 0 (Nat.lt_succ_self _) (by rw [sumZ]; omega) (by omega) (by omega)
        intro fu
        induction fu with
        | zero => intro k v5 v6 hm; exact absurd hm (Nat.not_lt_zero _)
        | succ fu ih39 =>
          intro k v5 v6 hm39 e5 e6 hi0
          subst e5
          subst e6
          refine wp_iload G 6 dX10_rate_39 rfl ?_
          refine wp_aload_n G 0 dX10_rate_41 rfl ?_
          refine wp_get G 7 cOk9 fX10_96 dX10_rate_42 h64 rfl ?_
          refine wp_icmp_ge G dX10_rate_45 (by omega) (by omega) (fun kq4 => ?_) (fun kq4 => ?_)
          · skip
            refine wp_iload G 5 dX10_rate_95 rfl ?_
            exact wp_ireturn G hr dX10_rate_97 ⟨by rw [ansR, if_neg (by omega), if_neg (by omega), show k = n by omega], rfl, by rfl⟩
          · skip
            refine wp_iload G 5 dX10_rate_48 rfl ?_
            refine wp_aload_n G 0 dX10_rate_50 rfl ?_
            refine wp_iload G 6 dX10_rate_51 rfl ?_
            refine wp_iconst G dX10_rate_53 ?_
            refine wp_iload G 4 dX10_rate_54 rfl ?_
            refine wp_cVE (b := 64) (ci := 9) (as := [zI ((k : Nat) : Int), zI (-1), zI b]) (rest := [zI (st 3 + sumZ (fun i => ifZ (q 1 i < d ∧ cnd q (-1) b i) (wgt pr fa sp q i x y d) 0) k)]) (hp2 := (nx, h, [])) G mX10_isCounted lX10_167 iX10_isCounted eX10_isCounted ⟨_, rfl, rfl⟩ dX10_rate_56 h64 rfl rfl (Nat.le_of_ble_eq_true rfl) (rmx_ok hR (by decide) (by decide) (by decide) (by decide)) (t_X10_isCounted (nx := nx) (j := k) (a := (-1)) (b := b) hQ hO hN (by omega) (by omega) ri_b) rfl ?_
            refine wp_ifeq_bt G dX10_rate_59 (fun kq5 => ?_) (fun kq5 => ?_)
            · skip
              refine wp_iconst G dX10_rate_85 ?_
              refine wp_iadd G dX10_rate_86 ?_
              refine wp_istore (lv' := [(5, zI ((st 3 + sumZ (fun i => ifZ (q 1 i < d ∧ cnd q (-1) b i) (wgt pr fa sp q i x y d) 0) k) + 0)), (0, zR 64), (1, zI x), (2, zI y), (3, zI d), (4, zI b), (6, zI ((k : Nat) : Int))]) G dX10_rate_87 (by decide) rfl ?_
              refine wp_iinc (lv' := [(6, zI (((k : Nat) : Int) + 1)), (5, zI ((st 3 + sumZ (fun i => ifZ (q 1 i < d ∧ cnd q (-1) b i) (wgt pr fa sp q i x y d) 0) k) + 0)), (0, zR 64), (1, zI x), (2, zI y), (3, zI d), (4, zI b)]) G 6 dX10_rate_89 rfl (by decide) rfl ?_
              refine wp_goto G dX10_rate_92 ?_
              refine wp_lv [2, 3, 4, 5, 6, 1, 0] rfl ?_
              exact ih39 (k + 1) ((st 3 + sumZ (fun i => ifZ (q 1 i < d ∧ cnd q (-1) b i) (wgt pr fa sp q i x y d) 0) k) + 0) (((k : Nat) : Int) + 1) (by omega) (by rw [sumZ]; first | (rw [ifZ_y ⟨by omega, by assumption⟩]; omega) | (rw [ifZ_n (by intro z; first | exact absurd z.2 (by assumption) | (have := z.1; omega))]; omega)) (by omega) (by omega)
            · skip
              refine wp_aload_n G 0 dX10_rate_62 rfl ?_
              refine wp_get G 1 cOk9 fX10_13 dX10_rate_63 h64 rfl ?_
              refine wp_iload G 6 dX10_rate_66 rfl ?_
              refine wp_iald (j := k) G dX10_rate_68 h66 rfl (by omega) (by decide) ?_
              have rrq2 := hO.d k (by omega)
              refine wp_iload_n G 3 dX10_rate_69 rfl ?_
              refine wp_icmp_ge G dX10_rate_70 (by omega) (by omega) (fun kq6 => ?_) (fun kq6 => ?_)
              · skip
                refine wp_iconst G dX10_rate_85 ?_
                refine wp_iadd G dX10_rate_86 ?_
                refine wp_istore (lv' := [(5, zI ((st 3 + sumZ (fun i => ifZ (q 1 i < d ∧ cnd q (-1) b i) (wgt pr fa sp q i x y d) 0) k) + 0)), (0, zR 64), (1, zI x), (2, zI y), (3, zI d), (4, zI b), (6, zI ((k : Nat) : Int))]) G dX10_rate_87 (by decide) rfl ?_
                refine wp_iinc (lv' := [(6, zI (((k : Nat) : Int) + 1)), (5, zI ((st 3 + sumZ (fun i => ifZ (q 1 i < d ∧ cnd q (-1) b i) (wgt pr fa sp q i x y d) 0) k) + 0)), (0, zR 64), (1, zI x), (2, zI y), (3, zI d), (4, zI b)]) G 6 dX10_rate_89 rfl (by decide) rfl ?_
                refine wp_goto G dX10_rate_92 ?_
                refine wp_lv [2, 3, 4, 5, 6, 1, 0] rfl ?_
                exact ih39 (k + 1) ((st 3 + sumZ (fun i => ifZ (q 1 i < d ∧ cnd q (-1) b i) (wgt pr fa sp q i x y d) 0) k) + 0) (((k : Nat) : Int) + 1) (by omega) (by rw [sumZ]; first | (rw [ifZ_y ⟨by omega, by assumption⟩]; omega) | (rw [ifZ_n (by intro z; first | exact absurd z.2 (by assumption) | (have := z.1; omega))]; omega)) (by omega) (by omega)
              · skip
                refine wp_aload_n G 0 dX10_rate_73 rfl ?_
                refine wp_iload G 6 dX10_rate_74 rfl ?_
                refine wp_iload_n G 1 dX10_rate_76 rfl ?_
                refine wp_iload_n G 2 dX10_rate_77 rfl ?_
                refine wp_iload_n G 3 dX10_rate_78 rfl ?_
                refine wp_cVE (b := 64) (ci := 9) (as := [zI ((k : Nat) : Int), zI x, zI y, zI d]) (rest := [zI (st 3 + sumZ (fun i => ifZ (q 1 i < d ∧ cnd q (-1) b i) (wgt pr fa sp q i x y d) 0) k)]) (hp2 := (nx, h, [])) G mX10_weigh lX10_211 iX10_weigh eX10_weigh ⟨_, rfl, rfl⟩ dX10_rate_79 h64 rfl rfl (Nat.le_of_ble_eq_true rfl) (rmx_ok hR (by decide) (by decide) (by decide) (by decide)) (t_X10_weigh (nx := nx) (i := k) (x := x) (y := y) (d := d) hQ hO hN hMs hS (by omega) (by omega) (by omega) (by omega)) rfl ?_
                refine wp_goto G dX10_rate_82 ?_
                refine wp_iadd G dX10_rate_86 ?_
                refine wp_istore (lv' := [(5, zI ((st 3 + sumZ (fun i => ifZ (q 1 i < d ∧ cnd q (-1) b i) (wgt pr fa sp q i x y d) 0) k) + wgt pr fa sp q k x y d)), (0, zR 64), (1, zI x), (2, zI y), (3, zI d), (4, zI b), (6, zI ((k : Nat) : Int))]) G dX10_rate_87 (by decide) rfl ?_
                refine wp_iinc (lv' := [(6, zI (((k : Nat) : Int) + 1)), (5, zI ((st 3 + sumZ (fun i => ifZ (q 1 i < d ∧ cnd q (-1) b i) (wgt pr fa sp q i x y d) 0) k) + wgt pr fa sp q k x y d)), (0, zR 64), (1, zI x), (2, zI y), (3, zI d), (4, zI b)]) G 6 dX10_rate_89 rfl (by decide) rfl ?_
                refine wp_goto G dX10_rate_92 ?_
                refine wp_lv [2, 3, 4, 5, 6, 1, 0] rfl ?_
                exact ih39 (k + 1) ((st 3 + sumZ (fun i => ifZ (q 1 i < d ∧ cnd q (-1) b i) (wgt pr fa sp q i x y d) 0) k) + wgt pr fa sp q k x y d) (((k : Nat) : Int) + 1) (by omega) (by rw [sumZ]; first | (rw [ifZ_y ⟨by omega, by assumption⟩]; omega) | (rw [ifZ_n (by intro z; first | exact absurd z.2 (by assumption) | (have := z.1; omega))]; omega)) (by omega) (by omega)
      · skip
        refine wp_bipush G dX10_rate_25 (by decide) ?_
        exact wp_ireturn G hr dX10_rate_27 ⟨by first | (rw [ansR, if_pos (by omega)]; done) | (rw [ansR, if_neg (by omega), if_pos (by omega)]; done) | (rw [ansR, if_neg (by omega), if_neg (by omega)]), rfl, by rfl⟩
  · skip
    refine wp_iconst G dX10_rate_8 ?_
    exact wp_ireturn G hr dX10_rate_9 ⟨by first | (rw [ansR, if_pos (by omega)]; done) | (rw [ansR, if_neg (by omega), if_pos (by omega)]; done) | (rw [ansR, if_neg (by omega), if_neg (by omega)]), rfl, by rfl⟩

set_option maxRecDepth 100000 in
set_option maxHeartbeats 4000000 in
theorem t_X9_mother {nx : Nat} {h : Nat → Option PC} {n : Nat} {q : Nat → Nat → Int} {o : Nat → Nat} {pr : Nat → Int} {fa : Nat → Int} {sp : Nat → Int} {fo : Nat → Int} {de : Nat → Int} {fc : Nat} {st : Nat → Int} {v : Int} {b : Int} (hQ : isQ h n q o) (hO : okQ n q o) (hM : isMo h pr fa sp fo de) (hS : okS pr fa sp) (h0 : h 0 = some (oO 8 [zR 1, zR 2, zR 11, zR 34, zR 36, zR 42, zR 44, zI ((fc : Nat) : Int), zR 45, zR 48])) (h1 : h 1 = some (oA 0 5 st)) (hN : okN st) (ri_v : r32 v) (ri_b : r32 b) : Cx 5 (0, 0) yX9_mother cX9_mother 4 (some .int) [zR 0, zI v, zI b] nx h (Rt (zI (ansM n q o st pr fa sp v b)) nx []) := by
  refine cx_of pnX9_mother (Nat.le_of_ble_eq_true rfl) ?_
  intro K G hr hnm hR
  obtain ⟨h2, h3, h4, h5, h6, h7, h8, h9, h10⟩ := id hQ
  have hn40 := hO.1
  obtain ⟨h36, h37, h38, h39, h40, h41⟩ := id hM
  obtain ⟨hN0, hN1, hN2, hN3, hN4⟩ := id hN
  have hwb := whX_b q n v b 1
  show Wp K 4 (Mx K h (Rt (zI (ansM n q o st pr fa sp v b)) nx []) (0, 0)) (0, 0) 0 [(0, zR 0), (1, zI v), (2, zI b)] [] (nx, h, [])
  refine wp_aload_n G 0 dX9_mother_0 rfl ?_
  refine wp_iload_n G 1 dX9_mother_1 rfl ?_
  refine wp_iload_n G 2 dX9_mother_2 rfl ?_
  refine wp_iconst G dX9_mother_3 ?_
  refine wp_cVE (b := 0) (ci := 8) (as := [zI v, zI b, zI 1]) (rest := []) (hp2 := (nx, h, [])) G mX9_refusalOfDaughter lX9_211 iX9_refusalOfDaughter eX9_refusalOfDaughter ⟨_, rfl, rfl⟩ dX9_mother_4 h0 rfl rfl (Nat.le_of_ble_eq_true rfl) (rmx_ok hR (by decide) (by decide) (by decide) (by decide)) (t_X9_refusalOfDaughter (nx := nx) (v := v) (b := b) (z := 1) hQ hO h0 ri_v ri_b (by omega)) rfl ?_
  refine wp_istore_n (lv' := [(3, zI (whX q n v b 1)), (0, zR 0), (1, zI v), (2, zI b)]) G dX9_mother_7 (by decide) rfl ?_
  refine wp_iload_n G 0 dX9_mother_8 rfl ?_
  refine wp_if_eq G dX9_mother_9 (by omega) (fun kq1 => ?_) (fun kq1 => ?_)
  · skip
    have hw0 := whX_0 kq1
    obtain ⟨kp, ep⟩ := Int.eq_ofNat_of_zero_le (show 0 ≤ v by omega)
    subst ep
    obtain ⟨p, hp, ep⟩ := hO.2.2.2.2 kp (by omega)
    subst ep
    have hop := hO.o p hp
    refine wp_aload_n G 1 dX9_mother_14 rfl ?_
    refine wp_get G 4 cOk8 fX9_37 dX9_mother_15 h0 rfl ?_
    refine wp_aload_n G 1 dX9_mother_18 rfl ?_
    refine wp_get G 1 cOk8 fX9_16 dX9_mother_19 h0 rfl ?_
    refine wp_iload_n G 2 dX9_mother_22 rfl ?_
    refine wp_iload_n G 3 dX9_mother_23 rfl ?_
    refine wp_aload_n G 1 dX9_mother_24 rfl ?_
    refine wp_get G 0 cOk8 fX9_7 dX9_mother_25 h0 rfl ?_
    refine wp_iconst G dX9_mother_28 ?_
    refine wp_iald (j := 3) G dX9_mother_29 h1 rfl (by decide) (by decide) ?_
    have rrq1 := hN.r 3 (by decide)
    refine wp_cVE (b := 36) (ci := 4) (as := [zR 2, zI ((o p : Nat) : Int), zI b, zI (st 3)]) (rest := []) (hp2 := (nx, h, [])) G mX4_likeliest lX9_215 iX4_likeliest eX4_likeliest ⟨_, rfl, rfl⟩ dX9_mother_30 h36 rfl rfl (Nat.le_of_ble_eq_true rfl) (rmx_ok hR (by decide) (by decide) (by decide) (by decide)) (t_X4_likeliest (nx := nx) (p := p) (b := b) (calm := (st 3)) hQ hO hM hS hp hN3 ri_b) rfl ?_
    exact wp_ireturn G hr dX9_mother_33 ⟨by rw [ansM, if_pos (by assumption)]; simp only [Int.toNat_natCast, plc_at hO hp], rfl, by rfl⟩
  · skip
    refine wp_iload_n G 0 dX9_mother_12 rfl ?_
    exact wp_ireturn G hr dX9_mother_13 ⟨by rw [ansM, if_neg (by assumption)], rfl, by rfl⟩

set_option maxRecDepth 100000 in
set_option maxHeartbeats 4000000 in
theorem t_X10_mother {nx : Nat} {h : Nat → Option PC} {n : Nat} {q : Nat → Nat → Int} {o : Nat → Nat} {fc : Nat} {hn : Nat} {ln : Nat} {ma : Int} {mb : Int} {st : Nat → Int} {pr : Nat → Int} {fa : Nat → Int} {sp : Nat → Int} {v : Int} {b : Int} (hQ : isM h n q o fc hn ln ma mb st) (hO : okQ n q o) (hN : okN st) (hMs : isMs h pr fa sp) (hS : okS pr fa sp) (ri_v : r32 v) (ri_b : r32 b) : Cx 5 (0, 0) yX10_mother cX10_mother 4 (some .int) [zR 64, zI v, zI b] nx h (Rt (zI (ansM n q o st pr fa sp v b)) nx []) := by
  refine cx_of pnX10_mother (Nat.le_of_ble_eq_true rfl) ?_
  intro K G hr hnm hR
  obtain ⟨h64, h65, h66, h67, h68, h69, h70, h71, h72, h73⟩ := id hQ
  have hn40 := hO.1
  obtain ⟨hN0, hN1, hN2, hN3, hN4⟩ := id hN
  obtain ⟨h77, h78, h79⟩ := id hMs
  have hwb := whX_b q n v b 1
  show Wp K 4 (Mx K h (Rt (zI (ansM n q o st pr fa sp v b)) nx []) (0, 0)) (0, 0) 0 [(0, zR 64), (1, zI v), (2, zI b)] [] (nx, h, [])
  refine wp_aload_n G 0 dX10_mother_0 rfl ?_
  refine wp_iload_n G 1 dX10_mother_1 rfl ?_
  refine wp_iload_n G 2 dX10_mother_2 rfl ?_
  refine wp_cVE (b := 64) (ci := 9) (as := [zI v, zI b]) (rest := []) (hp2 := (nx, h, [])) G mX10_whyNot lX10_226 iX10_whyNot eX10_whyNot ⟨_, rfl, rfl⟩ dX10_mother_3 h64 rfl rfl (Nat.le_of_ble_eq_true rfl) (rmx_ok hR (by decide) (by decide) (by decide) (by decide)) (t_X10_whyNot (nx := nx) (v := v) (b := b) hQ hO hN ri_v ri_b) rfl ?_
  rw [whX_N]
  refine wp_istore_n (lv' := [(3, zI (whX q n v b 1)), (0, zR 64), (1, zI v), (2, zI b)]) G dX10_mother_6 (by decide) rfl ?_
  refine wp_iload_n G 0 dX10_mother_7 rfl ?_
  refine wp_if_ge G dX10_mother_8 (by omega) (fun kq1 => ?_) (fun kq1 => ?_)
  · skip
    have hw00 : whX q n v b 1 = 0 := (by omega)
    have hw0 := whX_0 hw00
    obtain ⟨kp, ep⟩ := Int.eq_ofNat_of_zero_le (show 0 ≤ v by omega)
    subst ep
    obtain ⟨p, hp, ep⟩ := hO.2.2.2.2 kp (by omega)
    subst ep
    have hop := hO.o p hp
    refine wp_aload_n G 1 dX10_mother_15 rfl ?_
    refine wp_iload_n G 2 dX10_mother_16 rfl ?_
    refine wp_iload_n G 3 dX10_mother_17 rfl ?_
    refine wp_cVE (b := 64) (ci := 9) (as := [zI ((o p : Nat) : Int), zI b]) (rest := []) (hp2 := (nx, h, [])) G mX10_motherOf lX10_229 iX10_motherOf eX10_motherOf ⟨_, rfl, rfl⟩ dX10_mother_18 h64 rfl rfl (Nat.le_of_ble_eq_true rfl) (rmx_ok hR (by decide) (by decide) (by decide) (by decide)) (t_X10_motherOf (nx := nx) (p := p) (b := b) hQ hO hN hMs hS hp ri_b) rfl ?_
    exact wp_ireturn G hr dX10_mother_21 ⟨by first | (rw [ansM, if_neg (by omega)]; done) | (rw [ansM, if_pos (by assumption)]; simp only [Int.toNat_natCast, plc_at hO hp]), rfl, by rfl⟩
  · skip
    refine wp_iload_n G 0 dX10_mother_11 rfl ?_
    refine wp_goto G dX10_mother_12 ?_
    exact wp_ireturn G hr dX10_mother_21 ⟨by first | (rw [ansM, if_neg (by omega)]; done) | (rw [ansM, if_pos (by assumption)]; simp only [Int.toNat_natCast, plc_at hO hp]), rfl, by rfl⟩

set_option maxRecDepth 100000 in
set_option maxHeartbeats 4000000 in
theorem t_X9_draw {nx : Nat} {h : Nat → Option PC} {n : Nat} {q : Nat → Nat → Int} {o : Nat → Nat} {pr : Nat → Int} {fa : Nat → Int} {sp : Nat → Int} {fo : Nat → Int} {de : Nat → Int} {fc : Nat} {st : Nat → Int} {s : Int} {v : Int} {b : Int} (hQ : isQ h n q o) (hO : okQ n q o) (hM : isMo h pr fa sp fo de) (hS : okS pr fa sp) (h0 : h 0 = some (oO 8 [zR 1, zR 2, zR 11, zR 34, zR 36, zR 42, zR 44, zI ((fc : Nat) : Int), zR 45, zR 48])) (h1 : h 1 = some (oA 0 5 st)) (hN : okN st) (ri_s : r32 s) (ri_v : r32 v) (ri_b : r32 b) : Cx 6 (0, 0) yX9_draw cX9_draw 5 (some .int) [zR 0, zI s, zI v, zI b] nx h (Rt (zI (ansD n q o st pr fa sp s v b)) nx []) := by
  refine cx_of pnX9_draw (Nat.le_of_ble_eq_true rfl) ?_
  intro K G hr hnm hR
  obtain ⟨h2, h3, h4, h5, h6, h7, h8, h9, h10⟩ := id hQ
  have hn40 := hO.1
  obtain ⟨h36, h37, h38, h39, h40, h41⟩ := id hM
  obtain ⟨hN0, hN1, hN2, hN3, hN4⟩ := id hN
  have hwb := whX_b q n v b (bt (1 ≤ s ∧ s ≤ 1000000))
  show Wp K 5 (Mx K h (Rt (zI (ansD n q o st pr fa sp s v b)) nx []) (0, 0)) (0, 0) 0 [(0, zR 0), (1, zI s), (2, zI v), (3, zI b)] [] (nx, h, [])
  refine wp_aload_n G 0 dX9_draw_0 rfl ?_
  refine wp_iload_n G 2 dX9_draw_1 rfl ?_
  refine wp_iload_n G 3 dX9_draw_2 rfl ?_
  refine wp_iload_n G 1 dX9_draw_3 rfl ?_
  refine wp_iconst G dX9_draw_4 ?_
  refine wp_ldc (z := 1000000) G kX9_242 dX9_draw_5 ?_
  refine wp_cSE (as := [zI s, zI 1, zI 1000000]) (rest := [zI b, zI v, zR 0]) (hp2 := (nx, h, [])) G mX9_within lX9_127 sX9_within dX9_draw_7 rfl rfl (Nat.le_of_ble_eq_true rfl) (rmx_ok hR (by decide) (by decide) (by decide) (by decide)) (t_X9_within (nx := nx) (v := s) (lo := 1) (hi := 1000000) (by omega) (by omega) (by omega)) rfl ?_
  refine wp_cVE (b := 0) (ci := 8) (as := [zI v, zI b, zI (bt (1 ≤ s ∧ s ≤ 1000000))]) (rest := []) (hp2 := (nx, h, [])) G mX9_refusalOfDaughter lX9_211 iX9_refusalOfDaughter eX9_refusalOfDaughter ⟨_, rfl, rfl⟩ dX9_draw_10 h0 rfl rfl (Nat.le_of_ble_eq_true rfl) (rmx_ok hR (by decide) (by decide) (by decide) (by decide)) (t_X9_refusalOfDaughter (nx := nx) (v := v) (b := b) (z := (bt (1 ≤ s ∧ s ≤ 1000000))) hQ hO h0 ri_v ri_b (bt_r _)) rfl ?_
  refine wp_istore (lv' := [(4, zI (whX q n v b (bt (1 ≤ s ∧ s ≤ 1000000)))), (0, zR 0), (1, zI s), (2, zI v), (3, zI b)]) G dX9_draw_13 (by decide) rfl ?_
  refine wp_iload G 0 dX9_draw_15 rfl ?_
  refine wp_if_eq G dX9_draw_17 (by omega) (fun kq1 => ?_) (fun kq1 => ?_)
  · skip
    have hw0 := whX_0 kq1
    have hs1 : 1 ≤ s ∧ s ≤ 1000000 := Classical.byContradiction (fun z => hw0.2.2.1 (bt_0 z))
    obtain ⟨kp, ep⟩ := Int.eq_ofNat_of_zero_le (show 0 ≤ v by omega)
    subst ep
    obtain ⟨p, hp, ep⟩ := hO.2.2.2.2 kp (by omega)
    subst ep
    have hop := hO.o p hp
    refine wp_aload_n G 1 dX9_draw_23 rfl ?_
    refine wp_get G 4 cOk8 fX9_37 dX9_draw_24 h0 rfl ?_
    refine wp_aload_n G 1 dX9_draw_27 rfl ?_
    refine wp_get G 1 cOk8 fX9_16 dX9_draw_28 h0 rfl ?_
    refine wp_iload_n G 2 dX9_draw_31 rfl ?_
    refine wp_iload_n G 3 dX9_draw_32 rfl ?_
    refine wp_iload_n G 4 dX9_draw_33 rfl ?_
    refine wp_aload_n G 1 dX9_draw_34 rfl ?_
    refine wp_get G 0 cOk8 fX9_7 dX9_draw_35 h0 rfl ?_
    refine wp_iconst G dX9_draw_38 ?_
    refine wp_iald (j := 3) G dX9_draw_39 h1 rfl (by decide) (by decide) ?_
    have rrq1 := hN.r 3 (by decide)
    refine wp_cVE (b := 36) (ci := 4) (as := [zR 2, zI s, zI ((o p : Nat) : Int), zI b, zI (st 3)]) (rest := []) (hp2 := (nx, h, [])) G mX4_drawn lX9_243 iX4_drawn eX4_drawn ⟨_, rfl, rfl⟩ dX9_draw_40 h36 rfl rfl (Nat.le_of_ble_eq_true rfl) (rmx_ok hR (by decide) (by decide) (by decide) (by decide)) (t_X4_drawn (nx := nx) (s := s) (p := p) (b := b) (calm := (st 3)) hQ hO hM hS hs1 hp hN3 ri_b) rfl ?_
    exact wp_ireturn G hr dX9_draw_43 ⟨by rw [ansD, if_pos (by assumption)]; simp only [Int.toNat_natCast, plc_at hO hp], rfl, by rfl⟩
  · skip
    refine wp_iload G 0 dX9_draw_20 rfl ?_
    exact wp_ireturn G hr dX9_draw_22 ⟨by rw [ansD, if_neg (by assumption)], rfl, by rfl⟩

set_option maxRecDepth 100000 in
set_option maxHeartbeats 4000000 in
theorem t_X10_draw {nx : Nat} {h : Nat → Option PC} {n : Nat} {q : Nat → Nat → Int} {o : Nat → Nat} {fc : Nat} {hn : Nat} {ln : Nat} {ma : Int} {mb : Int} {st : Nat → Int} {pr : Nat → Int} {fa : Nat → Int} {sp : Nat → Int} {s : Int} {v : Int} {b : Int} (hQ : isM h n q o fc hn ln ma mb st) (hO : okQ n q o) (hN : okN st) (hMs : isMs h pr fa sp) (hS : okS pr fa sp) (ri_s : r32 s) (ri_v : r32 v) (ri_b : r32 b) : Cx 6 (0, 0) yX10_draw cX10_draw 7 (some .int) [zR 64, zI s, zI v, zI b] nx h (Rt (zI (ansD n q o st pr fa sp s v b)) nx []) := by
  refine cx_of pnX10_draw (Nat.le_of_ble_eq_true rfl) ?_
  intro K G hr hnm hR
  obtain ⟨h64, h65, h66, h67, h68, h69, h70, h71, h72, h73⟩ := id hQ
  have hn40 := hO.1
  obtain ⟨hN0, hN1, hN2, hN3, hN4⟩ := id hN
  obtain ⟨h77, h78, h79⟩ := id hMs
  show Wp K 7 (Mx K h (Rt (zI (ansD n q o st pr fa sp s v b)) nx []) (0, 0)) (0, 0) 0 [(0, zR 64), (1, zI s), (2, zI v), (3, zI b)] [] (nx, h, [])
  refine wp_aload_n G 0 dX10_draw_0 rfl ?_
  refine wp_iload_n G 2 dX10_draw_1 rfl ?_
  refine wp_cVE (b := 64) (ci := 9) (as := [zI v]) (rest := []) (hp2 := (nx, h, [])) G mX10_isQuake lX10_126 iX10_isQuake eX10_isQuake ⟨_, rfl, rfl⟩ dX10_draw_2 h64 rfl rfl (Nat.le_of_ble_eq_true rfl) (rmx_ok hR (by decide) (by decide) (by decide) (by decide)) (t_X10_isQuake (nx := nx) (v := v) hQ hO hN ri_v) rfl ?_
  refine wp_ifne_bt G dX10_draw_5 (fun kq1 => ?_) (fun kq1 => ?_)
  · skip
    refine wp_iload_n G 1 dX10_draw_10 rfl ?_
    refine wp_i2l G (by omega) dX10_draw_11 ?_
    refine wp_lconst (z := 1) G dX10_draw_12 (by decide) ?_
    refine wp_ldc2 (z := 1000000) G kX10_240 dX10_draw_13 ?_
    refine wp_cSE (as := [zJ s, zJ 1, zJ 1000000]) (rest := []) (hp2 := (nx, h, [])) G mX10_in lX10_100 sX10_in dX10_draw_16 rfl rfl (Nat.le_of_ble_eq_true rfl) (rmx_ok hR (by decide) (by decide) (by decide) (by decide)) (t_X10_in (nx := nx) (v := s) (lo := 1) (hi := 1000000) (by omega) (by omega) (by omega)) rfl ?_
    refine wp_ifeq_bt G dX10_draw_19 (fun kq2 => ?_) (fun kq2 => ?_)
    · skip
      refine wp_bipush G dX10_draw_29 (by decide) ?_
      exact wp_ireturn G hr dX10_draw_31 ⟨by have ew : whX q n v b (bt (1 ≤ s ∧ s ≤ 1000000)) = -2 := whX_r2 (by omega) (by intro z; first | (have := z.1; omega) | exact z.2 (bt_0 (by omega))); rw [ansD, if_neg (by omega), ew], rfl, by rfl⟩
    · skip
      refine wp_iload_n G 3 dX10_draw_22 rfl ?_
      refine wp_cSE (as := [zI b]) (rest := []) (hp2 := (nx, h, [])) G mX10_isDay lX10_120 sX10_isDay dX10_draw_23 rfl rfl (Nat.le_of_ble_eq_true rfl) (rmx_ok hR (by decide) (by decide) (by decide) (by decide)) (t_X10_isDay (nx := nx) (v := b) (by omega)) rfl ?_
      refine wp_ifne_bt G dX10_draw_26 (fun kq3 => ?_) (fun kq3 => ?_)
      · skip
        obtain ⟨kp, ep⟩ := Int.eq_ofNat_of_zero_le (show 0 ≤ v by omega)
        subst ep
        obtain ⟨p, hp, ep⟩ := hO.2.2.2.2 kp (by omega)
        subst ep
        have hop := hO.o p hp
        refine wp_aload_n G 0 dX10_draw_32 rfl ?_
        refine wp_iload_n G 2 dX10_draw_33 rfl ?_
        refine wp_iconst G dX10_draw_34 ?_
        refine wp_iload_n G 3 dX10_draw_35 rfl ?_
        refine wp_cVE (b := 64) (ci := 9) (as := [zI ((o p : Nat) : Int), zI (-1), zI b]) (rest := []) (hp2 := (nx, h, [])) G mX10_isCounted lX10_167 iX10_isCounted eX10_isCounted ⟨_, rfl, rfl⟩ dX10_draw_36 h64 rfl rfl (Nat.le_of_ble_eq_true rfl) (rmx_ok hR (by decide) (by decide) (by decide) (by decide)) (t_X10_isCounted (nx := nx) (j := (o p)) (a := (-1)) (b := b) hQ hO hN hop (by omega) ri_b) rfl ?_
        refine wp_ifne_bt G dX10_draw_39 (fun kq4 => ?_) (fun kq4 => ?_)
        · skip
          have hw00 : whX q n ((o p : Nat) : Int) b (bt (1 ≤ s ∧ s ≤ 1000000)) = 0 := whX_r0 (by omega) ⟨by omega, by rw [bt_1 (by omega)]; decide⟩ (by assumption)
          refine wp_iload_n G 1 dX10_draw_45 rfl ?_
          refine wp_i2l G (by omega) dX10_draw_46 ?_
          refine wp_lstore (lv' := [(4, zJ s), (0, zR 64), (1, zI s), (2, zI ((o p : Nat) : Int)), (3, zI b)]) G dX10_draw_47 (by decide) rfl ?_
          refine wp_iconst G dX10_draw_49 ?_
          refine wp_istore (lv' := [(6, zI 0), (4, zJ s), (0, zR 64), (1, zI s), (2, zI ((o p : Nat) : Int)), (3, zI b)]) G dX10_draw_50 (by decide) rfl ?_
          refine wp_lv [2, 3, 4, 5, 1, 0] rfl ?_
          suffices lp52 : ∀ (fu : Nat) (k : Nat) (v4 : Int) (v6 : Int), p - k < fu → (v4 = mvF (fun r => cnd q (-1) b (o r)) s k) → (v6 = ((k : Nat) : Int)) → (k ≤ p) → Wp K 7 (Mx K h (Rt (zI (ansD n q o st pr fa sp s ((o p : Nat) : Int) b)) nx []) (0, 0)) (0, 0) 52 [(0, zR 64), (1, zI s), (2, zI ((o p : Nat) : Int)), (3, zI b), (4, zJ v4), (6, zI v6)] [] (nx, h, []) from lp52 _ 0 s 0 (Nat.lt_succ_self _) (by rfl) (by omega) (by omega)
          intro fu
          induction fu with
          | zero => intro k v4 v6 hm; exact absurd hm (Nat.not_lt_zero _)
          | succ fu ih52 =>
            intro k v4 v6 hm52 e4 e6 hi0
            subst e4
            subst e6
            have hne : k < p → o k ≠ o p := fun z => ahd_ne (hO.2.2.2.1 k p z hp)
            have heq : k = p → o k = o p := fun z => by rw [z]
            have hok := hO.o k (by omega)
            refine wp_aload_n G 0 dX10_draw_52 rfl ?_
            refine wp_get G 9 cOk9 fX10_35 dX10_draw_53 h64 rfl ?_
            refine wp_iload G 5 dX10_draw_56 rfl ?_
            refine wp_iald (j := k) G dX10_draw_58 h73 rfl (by omega) (by decide) ?_
            have rrq1 := hO.o k (by omega)
            refine wp_iload_n G 2 dX10_draw_59 rfl ?_
            refine wp_icmp_eq G dX10_draw_60 (by omega) (by omega) (fun kq5 => ?_) (fun kq5 => ?_)
            · skip
              have ekp : k = p := (by omega)
              subst k
              have hmv := mvF_b (c := fun r => cnd q (-1) b (o r)) (s := s) (by omega) p
              refine wp_lload G 4 dX10_draw_102 rfl ?_
              refine wp_ldc2 (z := 16807) G kX10_242 dX10_draw_104 ?_
              refine wp_lmul G dX10_draw_107 ?_
              refine wp_ldc2 (z := 2147483647) G kX10_244 dX10_draw_108 ?_
              refine wp_lrem G (by omega) (by omega) (by omega) dX10_draw_111 ?_
              have hmv1 := mvF_b (c := fun r => cnd q (-1) b (o r)) (s := s) (by omega) (p + 1)
              rw [show ((Int.tmod (mvF (fun r => cnd q (-1) b (o r)) s p * 16807) 2147483647) : Int) = mvF (fun r => cnd q (-1) b (o r)) s (p + 1) by rw [mvF, ifZ_y (by assumption), Int.tmod_eq_emod_of_nonneg (by omega)]]
              refine wp_lstore (lv' := [(4, zJ (mvF (fun r => cnd q (-1) b (o r)) s (p + 1))), (0, zR 64), (1, zI s), (2, zI ((o p : Nat) : Int)), (3, zI b), (6, zI ((p : Nat) : Int))]) G dX10_draw_112 (by decide) rfl ?_
              refine wp_aload_n G 1 dX10_draw_114 rfl ?_
              refine wp_iload_n G 3 dX10_draw_115 rfl ?_
              refine wp_lload G 0 dX10_draw_116 rfl ?_
              refine wp_aload_n G 1 dX10_draw_118 rfl ?_
              refine wp_iload_n G 3 dX10_draw_119 rfl ?_
              refine wp_iload_n G 4 dX10_draw_120 rfl ?_
              refine wp_cVE (b := 64) (ci := 9) (as := [zI ((o p : Nat) : Int), zI b]) (rest := [zJ (mvF (fun r => cnd q (-1) b (o r)) s (p + 1)), zI ((o p : Nat) : Int), zR 64]) (hp2 := (nx, h, [])) G mX10_allWeights lX10_223 iX10_allWeights eX10_allWeights ⟨_, rfl, rfl⟩ dX10_draw_121 h64 rfl rfl (Nat.le_of_ble_eq_true rfl) (rmx_ok hR (by decide) (by decide) (by decide) (by decide)) (t_X10_allWeights (nx := nx) (j := (o p)) (b := b) hQ hO hN hMs hS hop ri_b) rfl ?_
              rw [show ((st 3 + sumZ (fun i => ifZ (cnd q (-1) b i ∧ ahd q i (o p)) (wgt pr fa sp q i (q 2 (o p)) (q 3 (o p)) (q 1 (o p))) 0) n) : Int) = (st 3 + sumZ (fun r => ifZ (cnd q (-1) b (o r)) (wpl pr fa sp q o p r) 0) p) by rw [all_w hO hp]]
              have hal : 0 ≤ sumZ (fun r => ifZ (cnd q (-1) b (o r)) (wpl pr fa sp q o p r) 0) p ∧ sumZ (fun r => ifZ (cnd q (-1) b (o r)) (wpl pr fa sp q o p r) 0) p ≤ 40000000 := swl_b hS hO p (by omega)
              have hmd := tmod_r (a := mvF (fun r => cnd q (-1) b (o r)) s (p + 1)) (b := st 3 + sumZ (fun r => ifZ (cnd q (-1) b (o r)) (wpl pr fa sp q o p r) 0) p) (mvF_b (c := fun r => cnd q (-1) b (o r)) (s := s) (by omega) (p + 1)).1 (by omega)
              refine wp_lrem G (by omega) (by omega) (by omega) dX10_draw_124 ?_
              refine wp_iload_n G 4 dX10_draw_125 rfl ?_
              refine wp_cVE (b := 64) (ci := 9) (as := [zI ((o p : Nat) : Int), zJ (Int.tmod (mvF (fun r => cnd q (-1) b (o r)) s (p + 1)) (st 3 + sumZ (fun r => ifZ (cnd q (-1) b (o r)) (wpl pr fa sp q o p r) 0) p)), zI b]) (rest := []) (hp2 := (nx, h, [])) G mX10_drawnFor lX10_246 iX10_drawnFor eX10_drawnFor ⟨_, rfl, rfl⟩ dX10_draw_126 h64 rfl rfl (Nat.le_of_ble_eq_true rfl) (rmx_ok hR (by decide) (by decide) (by decide) (by decide)) (t_X10_drawnFor (nx := nx) (p := p) (x := (Int.tmod (mvF (fun r => cnd q (-1) b (o r)) s (p + 1)) (st 3 + sumZ (fun r => ifZ (cnd q (-1) b (o r)) (wpl pr fa sp q o p r) 0) p))) (b := b) hQ hO hN hMs hS hp (by omega) ri_b) rfl ?_
              exact wp_ireturn G hr dX10_draw_129 ⟨by rw [ansD, if_pos (by assumption)]; simp only [Int.toNat_natCast, plc_at hO hp], rfl, by rfl⟩
            · skip
              have hkp : k < p := (by omega)
              refine wp_aload_n G 0 dX10_draw_63 rfl ?_
              refine wp_aload_n G 0 dX10_draw_64 rfl ?_
              refine wp_get G 9 cOk9 fX10_35 dX10_draw_65 h64 rfl ?_
              refine wp_iload G 5 dX10_draw_68 rfl ?_
              refine wp_iald (j := k) G dX10_draw_70 h73 rfl (by omega) (by decide) ?_
              have rrq2 := hO.o k (by omega)
              refine wp_iconst G dX10_draw_71 ?_
              refine wp_iload_n G 3 dX10_draw_72 rfl ?_
              refine wp_cVE (b := 64) (ci := 9) (as := [zI ((o k : Nat) : Int), zI (-1), zI b]) (rest := []) (hp2 := (nx, h, [])) G mX10_isCounted lX10_167 iX10_isCounted eX10_isCounted ⟨_, rfl, rfl⟩ dX10_draw_73 h64 rfl rfl (Nat.le_of_ble_eq_true rfl) (rmx_ok hR (by decide) (by decide) (by decide) (by decide)) (t_X10_isCounted (nx := nx) (j := (o k)) (a := (-1)) (b := b) hQ hO hN hok (by omega) ri_b) rfl ?_
              refine wp_ifeq_bt G dX10_draw_76 (fun kq6 => ?_) (fun kq6 => ?_)
              · skip
                refine wp_lload G 4 dX10_draw_92 rfl ?_
                refine wp_lstore (lv' := [(4, zJ (mvF (fun r => cnd q (-1) b (o r)) s k)), (0, zR 64), (1, zI s), (2, zI ((o p : Nat) : Int)), (3, zI b), (6, zI ((k : Nat) : Int))]) G dX10_draw_94 (by decide) rfl ?_
                refine wp_iinc (lv' := [(6, zI (((k : Nat) : Int) + 1)), (4, zJ (mvF (fun r => cnd q (-1) b (o r)) s k)), (0, zR 64), (1, zI s), (2, zI ((o p : Nat) : Int)), (3, zI b)]) G 5 dX10_draw_96 rfl (by decide) rfl ?_
                refine wp_goto G dX10_draw_99 ?_
                refine wp_lv [2, 3, 4, 5, 1, 0] rfl ?_
                exact ih52 (k + 1) (mvF (fun r => cnd q (-1) b (o r)) s k) (((k : Nat) : Int) + 1) (by omega) (by first | (rw [mvF, ifZ_y (by assumption), Int.tmod_eq_emod_of_nonneg (by omega)]; done) | (rw [mvF, ifZ_n (by assumption)])) (by omega) (by omega)
              · skip
                have hmv := mvF_b (c := fun r => cnd q (-1) b (o r)) (s := s) (by omega) k
                refine wp_lload G 4 dX10_draw_79 rfl ?_
                refine wp_ldc2 (z := 16807) G kX10_242 dX10_draw_81 ?_
                refine wp_lmul G dX10_draw_84 ?_
                refine wp_ldc2 (z := 2147483647) G kX10_244 dX10_draw_85 ?_
                refine wp_lrem G (by omega) (by omega) (by omega) dX10_draw_88 ?_
                refine wp_goto G dX10_draw_89 ?_
                refine wp_lstore (lv' := [(4, zJ (Int.tmod (mvF (fun r => cnd q (-1) b (o r)) s k * 16807) 2147483647)), (0, zR 64), (1, zI s), (2, zI ((o p : Nat) : Int)), (3, zI b), (6, zI ((k : Nat) : Int))]) G dX10_draw_94 (by decide) rfl ?_
                refine wp_iinc (lv' := [(6, zI (((k : Nat) : Int) + 1)), (4, zJ (Int.tmod (mvF (fun r => cnd q (-1) b (o r)) s k * 16807) 2147483647)), (0, zR 64), (1, zI s), (2, zI ((o p : Nat) : Int)), (3, zI b)]) G 5 dX10_draw_96 rfl (by decide) rfl ?_
                refine wp_goto G dX10_draw_99 ?_
                refine wp_lv [2, 3, 4, 5, 1, 0] rfl ?_
                exact ih52 (k + 1) (Int.tmod (mvF (fun r => cnd q (-1) b (o r)) s k * 16807) 2147483647) (((k : Nat) : Int) + 1) (by omega) (by first | (rw [mvF, ifZ_y (by assumption), Int.tmod_eq_emod_of_nonneg (by omega)]; done) | (rw [mvF, ifZ_n (by assumption)])) (by omega) (by omega)
        · skip
          refine wp_bipush G dX10_draw_42 (by decide) ?_
          exact wp_ireturn G hr dX10_draw_44 ⟨by have ew : whX q n ((o p : Nat) : Int) b (bt (1 ≤ s ∧ s ≤ 1000000)) = -3 := whX_r3 (by omega) ⟨by omega, by rw [bt_1 (by omega)]; decide⟩ (by assumption); rw [ansD, if_neg (by omega), ew], rfl, by rfl⟩
      · skip
        refine wp_bipush G dX10_draw_29 (by decide) ?_
        exact wp_ireturn G hr dX10_draw_31 ⟨by have ew : whX q n v b (bt (1 ≤ s ∧ s ≤ 1000000)) = -2 := whX_r2 (by omega) (by intro z; first | (have := z.1; omega) | exact z.2 (bt_0 (by omega))); rw [ansD, if_neg (by omega), ew], rfl, by rfl⟩
  · skip
    refine wp_iconst G dX10_draw_8 ?_
    exact wp_ireturn G hr dX10_draw_9 ⟨by have ew : whX q n v b (bt (1 ≤ s ∧ s ≤ 1000000)) = -1 := whX_r1 (by omega); rw [ansD, if_neg (by omega), ew], rfl, by rfl⟩

set_option maxRecDepth 100000 in
set_option maxHeartbeats 4000000 in
theorem t_X9_share {nx : Nat} {h : Nat → Option PC} {n : Nat} {q : Nat → Nat → Int} {o : Nat → Nat} {pr : Nat → Int} {fa : Nat → Int} {sp : Nat → Int} {fo : Nat → Int} {de : Nat → Int} {fc : Nat} {st : Nat → Int} {v : Int} {w : Int} {b : Int} {e : Int} (hQ : isQ h n q o) (hO : okQ n q o) (hM : isMo h pr fa sp fo de) (hS : okS pr fa sp) (h0 : h 0 = some (oO 8 [zR 1, zR 2, zR 11, zR 34, zR 36, zR 42, zR 44, zI ((fc : Nat) : Int), zR 45, zR 48])) (h1 : h 1 = some (oA 0 5 st)) (hN : okN st) (ri_v : r32 v) (ri_w : r32 w) (ri_b : r32 b) (ri_e : r32 e) : Cx 5 (0, 0) yX9_share cX9_share 7 (some .long) [zR 0, zI v, zI w, zI b, zI e] nx h (Rt (zJ (ansH n q st pr fa sp v w b e)) nx []) := by
  refine cx_of pnX9_share (Nat.le_of_ble_eq_true rfl) ?_
  intro K G hr hnm hR
  obtain ⟨h2, h3, h4, h5, h6, h7, h8, h9, h10⟩ := id hQ
  have hn40 := hO.1
  obtain ⟨h36, h37, h38, h39, h40, h41⟩ := id hM
  obtain ⟨hN0, hN1, hN2, hN3, hN4⟩ := id hN
  show Wp K 7 (Mx K h (Rt (zJ (ansH n q st pr fa sp v w b e)) nx []) (0, 0)) (0, 0) 0 [(0, zR 0), (1, zI v), (2, zI w), (3, zI b), (4, zI e)] [] (nx, h, [])
  refine wp_aload_n G 0 dX9_share_0 rfl ?_
  refine wp_get G 1 cOk8 fX9_16 dX9_share_1 h0 rfl ?_
  refine wp_iload_n G 1 dX9_share_4 rfl ?_
  refine wp_cVE (b := 2) (ci := 5) (as := [zI v]) (rest := []) (hp2 := (nx, h, [])) G mX6_has lX9_94 iX6_has eX6_has ⟨_, rfl, rfl⟩ dX9_share_5 h2 rfl rfl (Nat.le_of_ble_eq_true rfl) (rmx_ok hR (by decide) (by decide) (by decide) (by decide)) (t_X6_has (nx := nx) (v := v) hQ hO ri_v) rfl ?_
  refine wp_ifeq_bt G dX9_share_8 (fun kq1 => ?_) (fun kq1 => ?_)
  · skip
    refine wp_ldc2 (z := -1000000000000000001) G kX9_164 dX9_share_27 ?_
    exact wp_lreturn G hr dX9_share_30 ⟨by first | (rw [ansH, if_pos (by omega)]; done) | (rw [ansH, if_neg (by omega), if_pos (by omega)]; done) | (rw [ansH, if_neg (by omega), if_neg (by omega), ifZ_n (by assumption)]; done), rfl, by rfl⟩
  · skip
    refine wp_iload_n G 2 dX9_share_11 rfl ?_
    refine wp_iconst G dX9_share_12 ?_
    refine wp_icmp_eq G dX9_share_13 (by omega) (by omega) (fun kq2 => ?_) (fun kq2 => ?_)
    · skip
      refine wp_iload_n G 3 dX9_share_31 rfl ?_
      refine wp_cSE (as := [zI b]) (rest := []) (hp2 := (nx, h, [])) G mX9_isDay lX9_80 sX9_isDay dX9_share_32 rfl rfl (Nat.le_of_ble_eq_true rfl) (rmx_ok hR (by decide) (by decide) (by decide) (by decide)) (t_X9_isDay (nx := nx) (v := b) (by omega)) rfl ?_
      refine wp_ifeq_bt G dX9_share_35 (fun kq3 => ?_) (fun kq3 => ?_)
      · skip
        refine wp_ldc2 (z := -1000000000000000002) G kX9_169 dX9_share_46 ?_
        exact wp_lreturn G hr dX9_share_49 ⟨by first | (rw [ansH, if_pos (by omega)]; done) | (rw [ansH, if_neg (by omega), if_pos (by omega)]; done) | (rw [ansH, if_neg (by omega), if_neg (by omega), ifZ_n (by assumption)]; done), rfl, by rfl⟩
      · skip
        refine wp_iload G 4 dX9_share_38 rfl ?_
        refine wp_cSE (as := [zI e]) (rest := []) (hp2 := (nx, h, [])) G mX9_isPart lX9_166 sX9_isPart dX9_share_40 rfl rfl (Nat.le_of_ble_eq_true rfl) (rmx_ok hR (by decide) (by decide) (by decide) (by decide)) (t_X9_isPart (nx := nx) (v := e) (by omega)) rfl ?_
        refine wp_ifne_bt G dX9_share_43 (fun kq4 => ?_) (fun kq4 => ?_)
        · skip
          obtain ⟨kp, ep⟩ := Int.eq_ofNat_of_zero_le (show 0 ≤ v by omega)
          subst ep
          obtain ⟨p, hp, ep⟩ := hO.2.2.2.2 kp (by omega)
          subst ep
          have hop := hO.o p hp
          refine wp_aload_n G 0 dX9_share_50 rfl ?_
          refine wp_get G 1 cOk8 fX9_16 dX9_share_51 h0 rfl ?_
          refine wp_iload_n G 1 dX9_share_54 rfl ?_
          refine wp_iconst G dX9_share_55 ?_
          refine wp_iload_n G 3 dX9_share_56 rfl ?_
          refine wp_cVE (b := 2) (ci := 5) (as := [zI ((o p : Nat) : Int), zI (-1), zI b]) (rest := []) (hp2 := (nx, h, [])) G mX6_isCounted lX9_202 iX6_isCounted eX6_isCounted ⟨_, rfl, rfl⟩ dX9_share_57 h2 rfl rfl (Nat.le_of_ble_eq_true rfl) (rmx_ok hR (by decide) (by decide) (by decide) (by decide)) (t_X6_isCounted (nx := nx) (j := (o p)) (a := (-1)) (b := b) hQ hO hop (by omega) ri_b) rfl ?_
          refine wp_ifne_bt G dX9_share_60 (fun kq5 => ?_) (fun kq5 => ?_)
          · skip
            refine wp_aload_n G 0 dX9_share_67 rfl ?_
            refine wp_get G 0 cOk8 fX9_7 dX9_share_68 h0 rfl ?_
            refine wp_iconst G dX9_share_71 ?_
            refine wp_iald (j := 3) G dX9_share_72 h1 rfl (by decide) (by decide) ?_
            have rrq1 := hN.r 3 (by decide)
            refine wp_istore (lv' := [(5, zI (st 3)), (0, zR 0), (1, zI ((o p : Nat) : Int)), (2, zI w), (3, zI b), (4, zI e)]) G dX9_share_73 (by decide) rfl ?_
            refine wp_iload_n G 3 dX9_share_75 rfl ?_
            refine wp_iconst G dX9_share_76 ?_
            refine wp_icmp_ne G dX9_share_77 (by omega) (by omega) (fun kq6 => ?_) (fun kq6 => ?_)
            · skip
              obtain ⟨ku, eu⟩ := Int.eq_ofNat_of_zero_le (show 0 ≤ w by omega)
              subst eu
              obtain ⟨u, hu, eu⟩ := hO.2.2.2.2 ku (by omega)
              subst eu
              have hou := hO.o u hu
              refine wp_aload_n G 1 dX9_share_85 rfl ?_
              refine wp_get G 4 cOk8 fX9_37 dX9_share_86 h0 rfl ?_
              refine wp_aload_n G 1 dX9_share_89 rfl ?_
              refine wp_get G 1 cOk8 fX9_16 dX9_share_90 h0 rfl ?_
              refine wp_iload_n G 2 dX9_share_93 rfl ?_
              refine wp_iload_n G 3 dX9_share_94 rfl ?_
              refine wp_iload_n G 4 dX9_share_95 rfl ?_
              refine wp_cVE (b := 36) (ci := 4) (as := [zR 2, zI ((o p : Nat) : Int), zI ((o u : Nat) : Int), zI b]) (rest := []) (hp2 := (nx, h, [])) G mX4_weightIfAhead lX9_205 iX4_weightIfAhead eX4_weightIfAhead ⟨_, rfl, rfl⟩ dX9_share_96 h36 rfl rfl (Nat.le_of_ble_eq_true rfl) (rmx_ok hR (by decide) (by decide) (by decide) (by decide)) (t_X4_weightIfAhead (nx := nx) (p := p) (r := u) (b := b) hQ hO hM hS hp hu ri_b) rfl ?_
              have hwi := wif_b (b := b) hS hO (p := p) hu
              refine wp_istore (lv' := [(6, zI (ifZ (cnd q (-1) b (o u) ∧ u < p) (wpl pr fa sp q o p u) 0)), (5, zI (st 3)), (0, zR 0), (1, zI ((o p : Nat) : Int)), (2, zI ((o u : Nat) : Int)), (3, zI b), (4, zI e)]) G dX9_share_99 (by decide) rfl ?_
              have hal : 0 ≤ sumZ (fun r => ifZ (cnd q (-1) b (o r)) (wpl pr fa sp q o p r) 0) p ∧ sumZ (fun r => ifZ (cnd q (-1) b (o r)) (wpl pr fa sp q o p r) 0) p ≤ 40000000 := swl_b hS hO p (by omega)
              refine wp_iload G 0 dX9_share_101 rfl ?_
              refine wp_i2l G (by omega) dX9_share_103 ?_
              refine wp_aload_n G 2 dX9_share_104 rfl ?_
              refine wp_get G 4 cOk8 fX9_37 dX9_share_105 h0 rfl ?_
              refine wp_aload_n G 2 dX9_share_108 rfl ?_
              refine wp_get G 1 cOk8 fX9_16 dX9_share_109 h0 rfl ?_
              refine wp_iload_n G 3 dX9_share_112 rfl ?_
              refine wp_iload_n G 5 dX9_share_113 rfl ?_
              refine wp_iload G 1 dX9_share_114 rfl ?_
              refine wp_cVE (b := 36) (ci := 4) (as := [zR 2, zI ((o p : Nat) : Int), zI b, zI (st 3)]) (rest := [zJ (ifZ (cnd q (-1) b (o u) ∧ u < p) (wpl pr fa sp q o p u) 0)]) (hp2 := (nx, h, [])) G mX4_allWeights lX9_208 iX4_allWeights eX4_allWeights ⟨_, rfl, rfl⟩ dX9_share_116 h36 rfl rfl (Nat.le_of_ble_eq_true rfl) (rmx_ok hR (by decide) (by decide) (by decide) (by decide)) (t_X4_allWeights (nx := nx) (p := p) (b := b) (calm := (st 3)) hQ hO hM hS hp hN3 ri_b) rfl ?_
              refine wp_i2l G (by omega) dX9_share_119 ?_
              refine wp_iload G 6 dX9_share_120 rfl ?_
              refine wp_cSE (as := [zJ (ifZ (cnd q (-1) b (o u) ∧ u < p) (wpl pr fa sp q o p u) 0), zJ ((st 3) + sumZ (fun r => ifZ (cnd q (-1) b (o r)) (wpl pr fa sp q o p r) 0) p), zI e]) (rest := []) (hp2 := (nx, h, [])) G mX5_partOf lX9_178 sX5_partOf dX9_share_122 rfl rfl (Nat.le_of_ble_eq_true rfl) (rmx_ok hR (by decide) (by decide) (by decide) (by decide)) (t_X5_partOfI (nx := nx) (a := (ifZ (cnd q (-1) b (o u) ∧ u < p) (wpl pr fa sp q o p u) 0)) (b := ((st 3) + sumZ (fun r => ifZ (cnd q (-1) b (o r)) (wpl pr fa sp q o p r) 0) p)) (p := e) (by omega) (by omega) (by omega)) rfl ?_
              exact wp_lreturn G hr dX9_share_125 ⟨by exact congrArg (fun z => some (zJ z)) (ansH_4 hop (by omega) (by omega) (by assumption) (by unfold shW; first | (rw [if_pos (by omega)]; done) | (rw [if_neg (by omega)]; simp only [Int.toNat_natCast]; unfold wpl; exact ifZ_iff ⟨fun z => ⟨z.1, (ahd_lt hO hu hp).mpr z.2⟩, fun z => ⟨z.1, (ahd_lt hO hu hp).mp z.2⟩⟩)) (by rw [all_w hO hp])), rfl, by rfl⟩
            · skip
              refine wp_iload G 0 dX9_share_80 rfl ?_
              refine wp_goto G dX9_share_82 ?_
              refine wp_istore (lv' := [(6, zI (st 3)), (5, zI (st 3)), (0, zR 0), (1, zI ((o p : Nat) : Int)), (2, zI w), (3, zI b), (4, zI e)]) G dX9_share_99 (by decide) rfl ?_
              have hal : 0 ≤ sumZ (fun r => ifZ (cnd q (-1) b (o r)) (wpl pr fa sp q o p r) 0) p ∧ sumZ (fun r => ifZ (cnd q (-1) b (o r)) (wpl pr fa sp q o p r) 0) p ≤ 40000000 := swl_b hS hO p (by omega)
              refine wp_iload G 0 dX9_share_101 rfl ?_
              refine wp_i2l G (by omega) dX9_share_103 ?_
              refine wp_aload_n G 2 dX9_share_104 rfl ?_
              refine wp_get G 4 cOk8 fX9_37 dX9_share_105 h0 rfl ?_
              refine wp_aload_n G 2 dX9_share_108 rfl ?_
              refine wp_get G 1 cOk8 fX9_16 dX9_share_109 h0 rfl ?_
              refine wp_iload_n G 3 dX9_share_112 rfl ?_
              refine wp_iload_n G 5 dX9_share_113 rfl ?_
              refine wp_iload G 1 dX9_share_114 rfl ?_
              refine wp_cVE (b := 36) (ci := 4) (as := [zR 2, zI ((o p : Nat) : Int), zI b, zI (st 3)]) (rest := [zJ (st 3)]) (hp2 := (nx, h, [])) G mX4_allWeights lX9_208 iX4_allWeights eX4_allWeights ⟨_, rfl, rfl⟩ dX9_share_116 h36 rfl rfl (Nat.le_of_ble_eq_true rfl) (rmx_ok hR (by decide) (by decide) (by decide) (by decide)) (t_X4_allWeights (nx := nx) (p := p) (b := b) (calm := (st 3)) hQ hO hM hS hp hN3 ri_b) rfl ?_
              refine wp_i2l G (by omega) dX9_share_119 ?_
              refine wp_iload G 6 dX9_share_120 rfl ?_
              refine wp_cSE (as := [zJ (st 3), zJ ((st 3) + sumZ (fun r => ifZ (cnd q (-1) b (o r)) (wpl pr fa sp q o p r) 0) p), zI e]) (rest := []) (hp2 := (nx, h, [])) G mX5_partOf lX9_178 sX5_partOf dX9_share_122 rfl rfl (Nat.le_of_ble_eq_true rfl) (rmx_ok hR (by decide) (by decide) (by decide) (by decide)) (t_X5_partOfI (nx := nx) (a := (st 3)) (b := ((st 3) + sumZ (fun r => ifZ (cnd q (-1) b (o r)) (wpl pr fa sp q o p r) 0) p)) (p := e) (by omega) (by omega) (by omega)) rfl ?_
              exact wp_lreturn G hr dX9_share_125 ⟨by exact congrArg (fun z => some (zJ z)) (ansH_4 hop (by omega) (by omega) (by assumption) (by unfold shW; first | (rw [if_pos (by omega)]; done) | (rw [if_neg (by omega)]; simp only [Int.toNat_natCast]; unfold wpl; exact ifZ_iff ⟨fun z => ⟨z.1, (ahd_lt hO hu hp).mpr z.2⟩, fun z => ⟨z.1, (ahd_lt hO hu hp).mp z.2⟩⟩)) (by rw [all_w hO hp])), rfl, by rfl⟩
          · skip
            refine wp_ldc2 (z := -1000000000000000003) G kX9_171 dX9_share_63 ?_
            exact wp_lreturn G hr dX9_share_66 ⟨by first | (rw [ansH, if_pos (by omega)]; done) | (rw [ansH, if_neg (by omega), if_pos (by omega)]; done) | (rw [ansH, if_neg (by omega), if_neg (by omega), ifZ_n (by assumption)]; done), rfl, by rfl⟩
        · skip
          refine wp_ldc2 (z := -1000000000000000002) G kX9_169 dX9_share_46 ?_
          exact wp_lreturn G hr dX9_share_49 ⟨by first | (rw [ansH, if_pos (by omega)]; done) | (rw [ansH, if_neg (by omega), if_pos (by omega)]; done) | (rw [ansH, if_neg (by omega), if_neg (by omega), ifZ_n (by assumption)]; done), rfl, by rfl⟩
    · skip
      refine wp_aload_n G 0 dX9_share_16 rfl ?_
      refine wp_get G 1 cOk8 fX9_16 dX9_share_17 h0 rfl ?_
      refine wp_iload_n G 2 dX9_share_20 rfl ?_
      refine wp_cVE (b := 2) (ci := 5) (as := [zI w]) (rest := []) (hp2 := (nx, h, [])) G mX6_has lX9_94 iX6_has eX6_has ⟨_, rfl, rfl⟩ dX9_share_21 h2 rfl rfl (Nat.le_of_ble_eq_true rfl) (rmx_ok hR (by decide) (by decide) (by decide) (by decide)) (t_X6_has (nx := nx) (v := w) hQ hO (by omega)) rfl ?_
      refine wp_ifne_bt G dX9_share_24 (fun kq7 => ?_) (fun kq7 => ?_)
      · skip
        refine wp_iload_n G 3 dX9_share_31 rfl ?_
        refine wp_cSE (as := [zI b]) (rest := []) (hp2 := (nx, h, [])) G mX9_isDay lX9_80 sX9_isDay dX9_share_32 rfl rfl (Nat.le_of_ble_eq_true rfl) (rmx_ok hR (by decide) (by decide) (by decide) (by decide)) (t_X9_isDay (nx := nx) (v := b) (by omega)) rfl ?_
        refine wp_ifeq_bt G dX9_share_35 (fun kq8 => ?_) (fun kq8 => ?_)
        · skip
          refine wp_ldc2 (z := -1000000000000000002) G kX9_169 dX9_share_46 ?_
          exact wp_lreturn G hr dX9_share_49 ⟨by first | (rw [ansH, if_pos (by omega)]; done) | (rw [ansH, if_neg (by omega), if_pos (by omega)]; done) | (rw [ansH, if_neg (by omega), if_neg (by omega), ifZ_n (by assumption)]; done), rfl, by rfl⟩
        · skip
          refine wp_iload G 4 dX9_share_38 rfl ?_
          refine wp_cSE (as := [zI e]) (rest := []) (hp2 := (nx, h, [])) G mX9_isPart lX9_166 sX9_isPart dX9_share_40 rfl rfl (Nat.le_of_ble_eq_true rfl) (rmx_ok hR (by decide) (by decide) (by decide) (by decide)) (t_X9_isPart (nx := nx) (v := e) (by omega)) rfl ?_
          refine wp_ifne_bt G dX9_share_43 (fun kq9 => ?_) (fun kq9 => ?_)
          · skip
            obtain ⟨kp, ep⟩ := Int.eq_ofNat_of_zero_le (show 0 ≤ v by omega)
            subst ep
            obtain ⟨p, hp, ep⟩ := hO.2.2.2.2 kp (by omega)
            subst ep
            have hop := hO.o p hp
            refine wp_aload_n G 0 dX9_share_50 rfl ?_
            refine wp_get G 1 cOk8 fX9_16 dX9_share_51 h0 rfl ?_
            refine wp_iload_n G 1 dX9_share_54 rfl ?_
            refine wp_iconst G dX9_share_55 ?_
            refine wp_iload_n G 3 dX9_share_56 rfl ?_
            refine wp_cVE (b := 2) (ci := 5) (as := [zI ((o p : Nat) : Int), zI (-1), zI b]) (rest := []) (hp2 := (nx, h, [])) G mX6_isCounted lX9_202 iX6_isCounted eX6_isCounted ⟨_, rfl, rfl⟩ dX9_share_57 h2 rfl rfl (Nat.le_of_ble_eq_true rfl) (rmx_ok hR (by decide) (by decide) (by decide) (by decide)) (t_X6_isCounted (nx := nx) (j := (o p)) (a := (-1)) (b := b) hQ hO hop (by omega) ri_b) rfl ?_
            refine wp_ifne_bt G dX9_share_60 (fun kq10 => ?_) (fun kq10 => ?_)
            · skip
              refine wp_aload_n G 0 dX9_share_67 rfl ?_
              refine wp_get G 0 cOk8 fX9_7 dX9_share_68 h0 rfl ?_
              refine wp_iconst G dX9_share_71 ?_
              refine wp_iald (j := 3) G dX9_share_72 h1 rfl (by decide) (by decide) ?_
              have rrq2 := hN.r 3 (by decide)
              refine wp_istore (lv' := [(5, zI (st 3)), (0, zR 0), (1, zI ((o p : Nat) : Int)), (2, zI w), (3, zI b), (4, zI e)]) G dX9_share_73 (by decide) rfl ?_
              refine wp_iload_n G 3 dX9_share_75 rfl ?_
              refine wp_iconst G dX9_share_76 ?_
              refine wp_icmp_ne G dX9_share_77 (by omega) (by omega) (fun kq11 => ?_) (fun kq11 => ?_)
              · skip
                obtain ⟨ku, eu⟩ := Int.eq_ofNat_of_zero_le (show 0 ≤ w by omega)
                subst eu
                obtain ⟨u, hu, eu⟩ := hO.2.2.2.2 ku (by omega)
                subst eu
                have hou := hO.o u hu
                refine wp_aload_n G 1 dX9_share_85 rfl ?_
                refine wp_get G 4 cOk8 fX9_37 dX9_share_86 h0 rfl ?_
                refine wp_aload_n G 1 dX9_share_89 rfl ?_
                refine wp_get G 1 cOk8 fX9_16 dX9_share_90 h0 rfl ?_
                refine wp_iload_n G 2 dX9_share_93 rfl ?_
                refine wp_iload_n G 3 dX9_share_94 rfl ?_
                refine wp_iload_n G 4 dX9_share_95 rfl ?_
                refine wp_cVE (b := 36) (ci := 4) (as := [zR 2, zI ((o p : Nat) : Int), zI ((o u : Nat) : Int), zI b]) (rest := []) (hp2 := (nx, h, [])) G mX4_weightIfAhead lX9_205 iX4_weightIfAhead eX4_weightIfAhead ⟨_, rfl, rfl⟩ dX9_share_96 h36 rfl rfl (Nat.le_of_ble_eq_true rfl) (rmx_ok hR (by decide) (by decide) (by decide) (by decide)) (t_X4_weightIfAhead (nx := nx) (p := p) (r := u) (b := b) hQ hO hM hS hp hu ri_b) rfl ?_
                have hwi := wif_b (b := b) hS hO (p := p) hu
                refine wp_istore (lv' := [(6, zI (ifZ (cnd q (-1) b (o u) ∧ u < p) (wpl pr fa sp q o p u) 0)), (5, zI (st 3)), (0, zR 0), (1, zI ((o p : Nat) : Int)), (2, zI ((o u : Nat) : Int)), (3, zI b), (4, zI e)]) G dX9_share_99 (by decide) rfl ?_
                have hal : 0 ≤ sumZ (fun r => ifZ (cnd q (-1) b (o r)) (wpl pr fa sp q o p r) 0) p ∧ sumZ (fun r => ifZ (cnd q (-1) b (o r)) (wpl pr fa sp q o p r) 0) p ≤ 40000000 := swl_b hS hO p (by omega)
                refine wp_iload G 0 dX9_share_101 rfl ?_
                refine wp_i2l G (by omega) dX9_share_103 ?_
                refine wp_aload_n G 2 dX9_share_104 rfl ?_
                refine wp_get G 4 cOk8 fX9_37 dX9_share_105 h0 rfl ?_
                refine wp_aload_n G 2 dX9_share_108 rfl ?_
                refine wp_get G 1 cOk8 fX9_16 dX9_share_109 h0 rfl ?_
                refine wp_iload_n G 3 dX9_share_112 rfl ?_
                refine wp_iload_n G 5 dX9_share_113 rfl ?_
                refine wp_iload G 1 dX9_share_114 rfl ?_
                refine wp_cVE (b := 36) (ci := 4) (as := [zR 2, zI ((o p : Nat) : Int), zI b, zI (st 3)]) (rest := [zJ (ifZ (cnd q (-1) b (o u) ∧ u < p) (wpl pr fa sp q o p u) 0)]) (hp2 := (nx, h, [])) G mX4_allWeights lX9_208 iX4_allWeights eX4_allWeights ⟨_, rfl, rfl⟩ dX9_share_116 h36 rfl rfl (Nat.le_of_ble_eq_true rfl) (rmx_ok hR (by decide) (by decide) (by decide) (by decide)) (t_X4_allWeights (nx := nx) (p := p) (b := b) (calm := (st 3)) hQ hO hM hS hp hN3 ri_b) rfl ?_
                refine wp_i2l G (by omega) dX9_share_119 ?_
                refine wp_iload G 6 dX9_share_120 rfl ?_
                refine wp_cSE (as := [zJ (ifZ (cnd q (-1) b (o u) ∧ u < p) (wpl pr fa sp q o p u) 0), zJ ((st 3) + sumZ (fun r => ifZ (cnd q (-1) b (o r)) (wpl pr fa sp q o p r) 0) p), zI e]) (rest := []) (hp2 := (nx, h, [])) G mX5_partOf lX9_178 sX5_partOf dX9_share_122 rfl rfl (Nat.le_of_ble_eq_true rfl) (rmx_ok hR (by decide) (by decide) (by decide) (by decide)) (t_X5_partOfI (nx := nx) (a := (ifZ (cnd q (-1) b (o u) ∧ u < p) (wpl pr fa sp q o p u) 0)) (b := ((st 3) + sumZ (fun r => ifZ (cnd q (-1) b (o r)) (wpl pr fa sp q o p r) 0) p)) (p := e) (by omega) (by omega) (by omega)) rfl ?_
                exact wp_lreturn G hr dX9_share_125 ⟨by exact congrArg (fun z => some (zJ z)) (ansH_4 hop (by omega) (by omega) (by assumption) (by unfold shW; first | (rw [if_pos (by omega)]; done) | (rw [if_neg (by omega)]; simp only [Int.toNat_natCast]; unfold wpl; exact ifZ_iff ⟨fun z => ⟨z.1, (ahd_lt hO hu hp).mpr z.2⟩, fun z => ⟨z.1, (ahd_lt hO hu hp).mp z.2⟩⟩)) (by rw [all_w hO hp])), rfl, by rfl⟩
              · skip
                refine wp_iload G 0 dX9_share_80 rfl ?_
                refine wp_goto G dX9_share_82 ?_
                refine wp_istore (lv' := [(6, zI (st 3)), (5, zI (st 3)), (0, zR 0), (1, zI ((o p : Nat) : Int)), (2, zI w), (3, zI b), (4, zI e)]) G dX9_share_99 (by decide) rfl ?_
                have hal : 0 ≤ sumZ (fun r => ifZ (cnd q (-1) b (o r)) (wpl pr fa sp q o p r) 0) p ∧ sumZ (fun r => ifZ (cnd q (-1) b (o r)) (wpl pr fa sp q o p r) 0) p ≤ 40000000 := swl_b hS hO p (by omega)
                refine wp_iload G 0 dX9_share_101 rfl ?_
                refine wp_i2l G (by omega) dX9_share_103 ?_
                refine wp_aload_n G 2 dX9_share_104 rfl ?_
                refine wp_get G 4 cOk8 fX9_37 dX9_share_105 h0 rfl ?_
                refine wp_aload_n G 2 dX9_share_108 rfl ?_
                refine wp_get G 1 cOk8 fX9_16 dX9_share_109 h0 rfl ?_
                refine wp_iload_n G 3 dX9_share_112 rfl ?_
                refine wp_iload_n G 5 dX9_share_113 rfl ?_
                refine wp_iload G 1 dX9_share_114 rfl ?_
                refine wp_cVE (b := 36) (ci := 4) (as := [zR 2, zI ((o p : Nat) : Int), zI b, zI (st 3)]) (rest := [zJ (st 3)]) (hp2 := (nx, h, [])) G mX4_allWeights lX9_208 iX4_allWeights eX4_allWeights ⟨_, rfl, rfl⟩ dX9_share_116 h36 rfl rfl (Nat.le_of_ble_eq_true rfl) (rmx_ok hR (by decide) (by decide) (by decide) (by decide)) (t_X4_allWeights (nx := nx) (p := p) (b := b) (calm := (st 3)) hQ hO hM hS hp hN3 ri_b) rfl ?_
                refine wp_i2l G (by omega) dX9_share_119 ?_
                refine wp_iload G 6 dX9_share_120 rfl ?_
                refine wp_cSE (as := [zJ (st 3), zJ ((st 3) + sumZ (fun r => ifZ (cnd q (-1) b (o r)) (wpl pr fa sp q o p r) 0) p), zI e]) (rest := []) (hp2 := (nx, h, [])) G mX5_partOf lX9_178 sX5_partOf dX9_share_122 rfl rfl (Nat.le_of_ble_eq_true rfl) (rmx_ok hR (by decide) (by decide) (by decide) (by decide)) (t_X5_partOfI (nx := nx) (a := (st 3)) (b := ((st 3) + sumZ (fun r => ifZ (cnd q (-1) b (o r)) (wpl pr fa sp q o p r) 0) p)) (p := e) (by omega) (by omega) (by omega)) rfl ?_
                exact wp_lreturn G hr dX9_share_125 ⟨by exact congrArg (fun z => some (zJ z)) (ansH_4 hop (by omega) (by omega) (by assumption) (by unfold shW; first | (rw [if_pos (by omega)]; done) | (rw [if_neg (by omega)]; simp only [Int.toNat_natCast]; unfold wpl; exact ifZ_iff ⟨fun z => ⟨z.1, (ahd_lt hO hu hp).mpr z.2⟩, fun z => ⟨z.1, (ahd_lt hO hu hp).mp z.2⟩⟩)) (by rw [all_w hO hp])), rfl, by rfl⟩
            · skip
              refine wp_ldc2 (z := -1000000000000000003) G kX9_171 dX9_share_63 ?_
              exact wp_lreturn G hr dX9_share_66 ⟨by first | (rw [ansH, if_pos (by omega)]; done) | (rw [ansH, if_neg (by omega), if_pos (by omega)]; done) | (rw [ansH, if_neg (by omega), if_neg (by omega), ifZ_n (by assumption)]; done), rfl, by rfl⟩
          · skip
            refine wp_ldc2 (z := -1000000000000000002) G kX9_169 dX9_share_46 ?_
            exact wp_lreturn G hr dX9_share_49 ⟨by first | (rw [ansH, if_pos (by omega)]; done) | (rw [ansH, if_neg (by omega), if_pos (by omega)]; done) | (rw [ansH, if_neg (by omega), if_neg (by omega), ifZ_n (by assumption)]; done), rfl, by rfl⟩
      · skip
        refine wp_ldc2 (z := -1000000000000000001) G kX9_164 dX9_share_27 ?_
        exact wp_lreturn G hr dX9_share_30 ⟨by first | (rw [ansH, if_pos (by omega)]; done) | (rw [ansH, if_neg (by omega), if_pos (by omega)]; done) | (rw [ansH, if_neg (by omega), if_neg (by omega), ifZ_n (by assumption)]; done), rfl, by rfl⟩

set_option maxRecDepth 100000 in
set_option maxHeartbeats 4000000 in
theorem t_X10_share {nx : Nat} {h : Nat → Option PC} {n : Nat} {q : Nat → Nat → Int} {o : Nat → Nat} {fc : Nat} {hn : Nat} {ln : Nat} {ma : Int} {mb : Int} {st : Nat → Int} {pr : Nat → Int} {fa : Nat → Int} {sp : Nat → Int} {v : Int} {w : Int} {b : Int} {e : Int} (hQ : isM h n q o fc hn ln ma mb st) (hO : okQ n q o) (hN : okN st) (hMs : isMs h pr fa sp) (hS : okS pr fa sp) (ri_v : r32 v) (ri_w : r32 w) (ri_b : r32 b) (ri_e : r32 e) : Cx 5 (0, 0) yX10_share cX10_share 7 (some .long) [zR 64, zI v, zI w, zI b, zI e] nx h (Rt (zJ (ansH n q st pr fa sp v w b e)) nx []) := by
  refine cx_of pnX10_share (Nat.le_of_ble_eq_true rfl) ?_
  intro K G hr hnm hR
  obtain ⟨h64, h65, h66, h67, h68, h69, h70, h71, h72, h73⟩ := id hQ
  have hn40 := hO.1
  obtain ⟨hN0, hN1, hN2, hN3, hN4⟩ := id hN
  obtain ⟨h77, h78, h79⟩ := id hMs
  show Wp K 7 (Mx K h (Rt (zJ (ansH n q st pr fa sp v w b e)) nx []) (0, 0)) (0, 0) 0 [(0, zR 64), (1, zI v), (2, zI w), (3, zI b), (4, zI e)] [] (nx, h, [])
  refine wp_aload_n G 0 dX10_share_0 rfl ?_
  refine wp_iload_n G 1 dX10_share_1 rfl ?_
  refine wp_cVE (b := 64) (ci := 9) (as := [zI v]) (rest := []) (hp2 := (nx, h, [])) G mX10_isQuake lX10_126 iX10_isQuake eX10_isQuake ⟨_, rfl, rfl⟩ dX10_share_2 h64 rfl rfl (Nat.le_of_ble_eq_true rfl) (rmx_ok hR (by decide) (by decide) (by decide) (by decide)) (t_X10_isQuake (nx := nx) (v := v) hQ hO hN ri_v) rfl ?_
  refine wp_ifeq_bt G dX10_share_5 (fun kq1 => ?_) (fun kq1 => ?_)
  · skip
    refine wp_ldc2 (z := -1000000000000000001) G kX10_179 dX10_share_21 ?_
    exact wp_lreturn G hr dX10_share_24 ⟨by first | (rw [ansH, if_pos (by omega)]; done) | (rw [ansH, if_neg (by omega), if_pos (by omega)]; done) | (rw [ansH, if_neg (by omega), if_neg (by omega), ifZ_n (by assumption)]; done), rfl, by rfl⟩
  · skip
    refine wp_iload_n G 2 dX10_share_8 rfl ?_
    refine wp_iconst G dX10_share_9 ?_
    refine wp_icmp_eq G dX10_share_10 (by omega) (by omega) (fun kq2 => ?_) (fun kq2 => ?_)
    · skip
      refine wp_iload_n G 3 dX10_share_25 rfl ?_
      refine wp_cSE (as := [zI b]) (rest := []) (hp2 := (nx, h, [])) G mX10_isDay lX10_120 sX10_isDay dX10_share_26 rfl rfl (Nat.le_of_ble_eq_true rfl) (rmx_ok hR (by decide) (by decide) (by decide) (by decide)) (t_X10_isDay (nx := nx) (v := b) (by omega)) rfl ?_
      refine wp_ifeq_bt G dX10_share_29 (fun kq3 => ?_) (fun kq3 => ?_)
      · skip
        refine wp_ldc2 (z := -1000000000000000002) G kX10_184 dX10_share_40 ?_
        exact wp_lreturn G hr dX10_share_43 ⟨by first | (rw [ansH, if_pos (by omega)]; done) | (rw [ansH, if_neg (by omega), if_pos (by omega)]; done) | (rw [ansH, if_neg (by omega), if_neg (by omega), ifZ_n (by assumption)]; done), rfl, by rfl⟩
      · skip
        refine wp_iload G 4 dX10_share_32 rfl ?_
        refine wp_cSE (as := [zI e]) (rest := []) (hp2 := (nx, h, [])) G mX10_isPart lX10_181 sX10_isPart dX10_share_34 rfl rfl (Nat.le_of_ble_eq_true rfl) (rmx_ok hR (by decide) (by decide) (by decide) (by decide)) (t_X10_isPart (nx := nx) (v := e) (by omega)) rfl ?_
        refine wp_ifne_bt G dX10_share_37 (fun kq4 => ?_) (fun kq4 => ?_)
        · skip
          obtain ⟨kp, ep⟩ := Int.eq_ofNat_of_zero_le (show 0 ≤ v by omega)
          subst ep
          obtain ⟨p, hp, ep⟩ := hO.2.2.2.2 kp (by omega)
          subst ep
          have hop := hO.o p hp
          refine wp_aload_n G 0 dX10_share_44 rfl ?_
          refine wp_iload_n G 1 dX10_share_45 rfl ?_
          refine wp_iconst G dX10_share_46 ?_
          refine wp_iload_n G 3 dX10_share_47 rfl ?_
          refine wp_cVE (b := 64) (ci := 9) (as := [zI ((o p : Nat) : Int), zI (-1), zI b]) (rest := []) (hp2 := (nx, h, [])) G mX10_isCounted lX10_167 iX10_isCounted eX10_isCounted ⟨_, rfl, rfl⟩ dX10_share_48 h64 rfl rfl (Nat.le_of_ble_eq_true rfl) (rmx_ok hR (by decide) (by decide) (by decide) (by decide)) (t_X10_isCounted (nx := nx) (j := (o p)) (a := (-1)) (b := b) hQ hO hN hop (by omega) ri_b) rfl ?_
          refine wp_ifne_bt G dX10_share_51 (fun kq5 => ?_) (fun kq5 => ?_)
          · skip
            refine wp_iload_n G 2 dX10_share_58 rfl ?_
            refine wp_if_ge G dX10_share_59 (by omega) (fun kq6 => ?_) (fun kq6 => ?_)
            · skip
              obtain ⟨ww, e_ww⟩ := Int.eq_ofNat_of_zero_le (show 0 ≤ w from (by omega))
              subst e_ww
              refine wp_aload_n G 0 dX10_share_72 rfl ?_
              refine wp_iload_n G 2 dX10_share_73 rfl ?_
              refine wp_iload_n G 1 dX10_share_74 rfl ?_
              refine wp_iload_n G 3 dX10_share_75 rfl ?_
              refine wp_cVE (b := 64) (ci := 9) (as := [zI ((ww : Nat) : Int), zI ((o p : Nat) : Int), zI b]) (rest := []) (hp2 := (nx, h, [])) G mX10_mayBear lX10_217 iX10_mayBear eX10_mayBear ⟨_, rfl, rfl⟩ dX10_share_76 h64 rfl rfl (Nat.le_of_ble_eq_true rfl) (rmx_ok hR (by decide) (by decide) (by decide) (by decide)) (t_X10_mayBear (nx := nx) (i := ww) (j := (o p)) (b := b) hQ hO hN (by omega) hop ri_b) rfl ?_
              refine wp_ifeq_bt G dX10_share_79 (fun kq7 => ?_) (fun kq7 => ?_)
              · skip
                refine wp_lconst (z := 0) G dX10_share_92 (by decide) ?_
                refine wp_lstore (lv' := [(5, zJ 0), (0, zR 64), (1, zI ((o p : Nat) : Int)), (2, zI ((ww : Nat) : Int)), (3, zI b), (4, zI e)]) G dX10_share_93 (by decide) rfl ?_
                have hal : 0 ≤ sumZ (fun r => ifZ (cnd q (-1) b (o r)) (wpl pr fa sp q o p r) 0) p ∧ sumZ (fun r => ifZ (cnd q (-1) b (o r)) (wpl pr fa sp q o p r) 0) p ≤ 40000000 := swl_b hS hO p (by omega)
                rw [← all_w hO hp] at hal
                refine wp_lload G 0 dX10_share_95 rfl ?_
                refine wp_aload_n G 1 dX10_share_97 rfl ?_
                refine wp_iload_n G 2 dX10_share_98 rfl ?_
                refine wp_iload_n G 4 dX10_share_99 rfl ?_
                refine wp_cVE (b := 64) (ci := 9) (as := [zI ((o p : Nat) : Int), zI b]) (rest := [zJ 0]) (hp2 := (nx, h, [])) G mX10_allWeights lX10_223 iX10_allWeights eX10_allWeights ⟨_, rfl, rfl⟩ dX10_share_100 h64 rfl rfl (Nat.le_of_ble_eq_true rfl) (rmx_ok hR (by decide) (by decide) (by decide) (by decide)) (t_X10_allWeights (nx := nx) (j := (o p)) (b := b) hQ hO hN hMs hS hop ri_b) rfl ?_
                refine wp_iload G 5 dX10_share_103 rfl ?_
                refine wp_cSE (as := [zJ 0, zJ (st 3 + sumZ (fun i => ifZ (cnd q (-1) b i ∧ ahd q i (o p)) (wgt pr fa sp q i (q 2 (o p)) (q 3 (o p)) (q 1 (o p))) 0) n), zI e]) (rest := []) (hp2 := (nx, h, [])) G mX10_lowest lX10_188 sX10_lowest dX10_share_105 rfl rfl (Nat.le_of_ble_eq_true rfl) (rmx_ok hR (by decide) (by decide) (by decide) (by decide)) (t_X10_lowestI (nx := nx) (a := 0) (b := (st 3 + sumZ (fun i => ifZ (cnd q (-1) b i ∧ ahd q i (o p)) (wgt pr fa sp q i (q 2 (o p)) (q 3 (o p)) (q 1 (o p))) 0) n)) (p := e) (by omega) (by omega) (by omega)) rfl ?_
                exact wp_lreturn G hr dX10_share_108 ⟨by exact congrArg (fun z => some (zJ z)) (ansH_4 hop (by omega) (by omega) (by assumption) (by unfold shW; first | (rw [if_pos (by omega)]; done) | (rw [if_neg (by omega)]; simp only [Int.toNat_natCast]; first | (rw [ifZ_y (by assumption)]; done) | (rw [ifZ_n (by assumption)]))) rfl), rfl, by rfl⟩
              · skip
                have hwi := wgt_b (i := ww) hS hO (by omega) (q 2 (o p)) (q 3 (o p)) (q 1 (o p))
                refine wp_aload_n G 0 dX10_share_82 rfl ?_
                refine wp_iload_n G 1 dX10_share_83 rfl ?_
                refine wp_iload_n G 2 dX10_share_84 rfl ?_
                refine wp_cVE (b := 64) (ci := 9) (as := [zI ((o p : Nat) : Int), zI ((ww : Nat) : Int)]) (rest := []) (hp2 := (nx, h, [])) G mX10_weightOf lX10_220 iX10_weightOf eX10_weightOf ⟨_, rfl, rfl⟩ dX10_share_85 h64 rfl rfl (Nat.le_of_ble_eq_true rfl) (rmx_ok hR (by decide) (by decide) (by decide) (by decide)) (t_X10_weightOf (nx := nx) (j := (o p)) (i := ww) hQ hO hN hMs hS hop (by omega)) rfl ?_
                refine wp_i2l G (by omega) dX10_share_88 ?_
                refine wp_goto G dX10_share_89 ?_
                refine wp_lstore (lv' := [(5, zJ (wgt pr fa sp q ww (q 2 (o p)) (q 3 (o p)) (q 1 (o p)))), (0, zR 64), (1, zI ((o p : Nat) : Int)), (2, zI ((ww : Nat) : Int)), (3, zI b), (4, zI e)]) G dX10_share_93 (by decide) rfl ?_
                have hal : 0 ≤ sumZ (fun r => ifZ (cnd q (-1) b (o r)) (wpl pr fa sp q o p r) 0) p ∧ sumZ (fun r => ifZ (cnd q (-1) b (o r)) (wpl pr fa sp q o p r) 0) p ≤ 40000000 := swl_b hS hO p (by omega)
                rw [← all_w hO hp] at hal
                refine wp_lload G 0 dX10_share_95 rfl ?_
                refine wp_aload_n G 1 dX10_share_97 rfl ?_
                refine wp_iload_n G 2 dX10_share_98 rfl ?_
                refine wp_iload_n G 4 dX10_share_99 rfl ?_
                refine wp_cVE (b := 64) (ci := 9) (as := [zI ((o p : Nat) : Int), zI b]) (rest := [zJ (wgt pr fa sp q ww (q 2 (o p)) (q 3 (o p)) (q 1 (o p)))]) (hp2 := (nx, h, [])) G mX10_allWeights lX10_223 iX10_allWeights eX10_allWeights ⟨_, rfl, rfl⟩ dX10_share_100 h64 rfl rfl (Nat.le_of_ble_eq_true rfl) (rmx_ok hR (by decide) (by decide) (by decide) (by decide)) (t_X10_allWeights (nx := nx) (j := (o p)) (b := b) hQ hO hN hMs hS hop ri_b) rfl ?_
                refine wp_iload G 5 dX10_share_103 rfl ?_
                refine wp_cSE (as := [zJ (wgt pr fa sp q ww (q 2 (o p)) (q 3 (o p)) (q 1 (o p))), zJ (st 3 + sumZ (fun i => ifZ (cnd q (-1) b i ∧ ahd q i (o p)) (wgt pr fa sp q i (q 2 (o p)) (q 3 (o p)) (q 1 (o p))) 0) n), zI e]) (rest := []) (hp2 := (nx, h, [])) G mX10_lowest lX10_188 sX10_lowest dX10_share_105 rfl rfl (Nat.le_of_ble_eq_true rfl) (rmx_ok hR (by decide) (by decide) (by decide) (by decide)) (t_X10_lowestI (nx := nx) (a := (wgt pr fa sp q ww (q 2 (o p)) (q 3 (o p)) (q 1 (o p)))) (b := (st 3 + sumZ (fun i => ifZ (cnd q (-1) b i ∧ ahd q i (o p)) (wgt pr fa sp q i (q 2 (o p)) (q 3 (o p)) (q 1 (o p))) 0) n)) (p := e) (by omega) (by omega) (by omega)) rfl ?_
                exact wp_lreturn G hr dX10_share_108 ⟨by exact congrArg (fun z => some (zJ z)) (ansH_4 hop (by omega) (by omega) (by assumption) (by unfold shW; first | (rw [if_pos (by omega)]; done) | (rw [if_neg (by omega)]; simp only [Int.toNat_natCast]; first | (rw [ifZ_y (by assumption)]; done) | (rw [ifZ_n (by assumption)]))) rfl), rfl, by rfl⟩
            · skip
              refine wp_aload_n G 0 dX10_share_62 rfl ?_
              refine wp_get G 8 cOk9 fX10_32 dX10_share_63 h64 rfl ?_
              refine wp_iconst G dX10_share_66 ?_
              refine wp_iald (j := 3) G dX10_share_67 h72 rfl (by decide) (by decide) ?_
              have rrq1 := hN.r 3 (by decide)
              refine wp_i2l G (by omega) dX10_share_68 ?_
              refine wp_goto G dX10_share_69 ?_
              refine wp_lstore (lv' := [(5, zJ (st 3)), (0, zR 64), (1, zI ((o p : Nat) : Int)), (2, zI w), (3, zI b), (4, zI e)]) G dX10_share_93 (by decide) rfl ?_
              have hal : 0 ≤ sumZ (fun r => ifZ (cnd q (-1) b (o r)) (wpl pr fa sp q o p r) 0) p ∧ sumZ (fun r => ifZ (cnd q (-1) b (o r)) (wpl pr fa sp q o p r) 0) p ≤ 40000000 := swl_b hS hO p (by omega)
              rw [← all_w hO hp] at hal
              refine wp_lload G 0 dX10_share_95 rfl ?_
              refine wp_aload_n G 1 dX10_share_97 rfl ?_
              refine wp_iload_n G 2 dX10_share_98 rfl ?_
              refine wp_iload_n G 4 dX10_share_99 rfl ?_
              refine wp_cVE (b := 64) (ci := 9) (as := [zI ((o p : Nat) : Int), zI b]) (rest := [zJ (st 3)]) (hp2 := (nx, h, [])) G mX10_allWeights lX10_223 iX10_allWeights eX10_allWeights ⟨_, rfl, rfl⟩ dX10_share_100 h64 rfl rfl (Nat.le_of_ble_eq_true rfl) (rmx_ok hR (by decide) (by decide) (by decide) (by decide)) (t_X10_allWeights (nx := nx) (j := (o p)) (b := b) hQ hO hN hMs hS hop ri_b) rfl ?_
              refine wp_iload G 5 dX10_share_103 rfl ?_
              refine wp_cSE (as := [zJ (st 3), zJ (st 3 + sumZ (fun i => ifZ (cnd q (-1) b i ∧ ahd q i (o p)) (wgt pr fa sp q i (q 2 (o p)) (q 3 (o p)) (q 1 (o p))) 0) n), zI e]) (rest := []) (hp2 := (nx, h, [])) G mX10_lowest lX10_188 sX10_lowest dX10_share_105 rfl rfl (Nat.le_of_ble_eq_true rfl) (rmx_ok hR (by decide) (by decide) (by decide) (by decide)) (t_X10_lowestI (nx := nx) (a := (st 3)) (b := (st 3 + sumZ (fun i => ifZ (cnd q (-1) b i ∧ ahd q i (o p)) (wgt pr fa sp q i (q 2 (o p)) (q 3 (o p)) (q 1 (o p))) 0) n)) (p := e) (by omega) (by omega) (by omega)) rfl ?_
              exact wp_lreturn G hr dX10_share_108 ⟨by exact congrArg (fun z => some (zJ z)) (ansH_4 hop (by omega) (by omega) (by assumption) (by unfold shW; first | (rw [if_pos (by omega)]; done) | (rw [if_neg (by omega)]; simp only [Int.toNat_natCast]; first | (rw [ifZ_y (by assumption)]; done) | (rw [ifZ_n (by assumption)]))) rfl), rfl, by rfl⟩
          · skip
            refine wp_ldc2 (z := -1000000000000000003) G kX10_186 dX10_share_54 ?_
            exact wp_lreturn G hr dX10_share_57 ⟨by first | (rw [ansH, if_pos (by omega)]; done) | (rw [ansH, if_neg (by omega), if_pos (by omega)]; done) | (rw [ansH, if_neg (by omega), if_neg (by omega), ifZ_n (by assumption)]; done), rfl, by rfl⟩
        · skip
          refine wp_ldc2 (z := -1000000000000000002) G kX10_184 dX10_share_40 ?_
          exact wp_lreturn G hr dX10_share_43 ⟨by first | (rw [ansH, if_pos (by omega)]; done) | (rw [ansH, if_neg (by omega), if_pos (by omega)]; done) | (rw [ansH, if_neg (by omega), if_neg (by omega), ifZ_n (by assumption)]; done), rfl, by rfl⟩
    · skip
      refine wp_aload_n G 0 dX10_share_13 rfl ?_
      refine wp_iload_n G 2 dX10_share_14 rfl ?_
      refine wp_cVE (b := 64) (ci := 9) (as := [zI w]) (rest := []) (hp2 := (nx, h, [])) G mX10_isQuake lX10_126 iX10_isQuake eX10_isQuake ⟨_, rfl, rfl⟩ dX10_share_15 h64 rfl rfl (Nat.le_of_ble_eq_true rfl) (rmx_ok hR (by decide) (by decide) (by decide) (by decide)) (t_X10_isQuake (nx := nx) (v := w) hQ hO hN (by omega)) rfl ?_
      refine wp_ifne_bt G dX10_share_18 (fun kq8 => ?_) (fun kq8 => ?_)
      · skip
        refine wp_iload_n G 3 dX10_share_25 rfl ?_
        refine wp_cSE (as := [zI b]) (rest := []) (hp2 := (nx, h, [])) G mX10_isDay lX10_120 sX10_isDay dX10_share_26 rfl rfl (Nat.le_of_ble_eq_true rfl) (rmx_ok hR (by decide) (by decide) (by decide) (by decide)) (t_X10_isDay (nx := nx) (v := b) (by omega)) rfl ?_
        refine wp_ifeq_bt G dX10_share_29 (fun kq9 => ?_) (fun kq9 => ?_)
        · skip
          refine wp_ldc2 (z := -1000000000000000002) G kX10_184 dX10_share_40 ?_
          exact wp_lreturn G hr dX10_share_43 ⟨by first | (rw [ansH, if_pos (by omega)]; done) | (rw [ansH, if_neg (by omega), if_pos (by omega)]; done) | (rw [ansH, if_neg (by omega), if_neg (by omega), ifZ_n (by assumption)]; done), rfl, by rfl⟩
        · skip
          refine wp_iload G 4 dX10_share_32 rfl ?_
          refine wp_cSE (as := [zI e]) (rest := []) (hp2 := (nx, h, [])) G mX10_isPart lX10_181 sX10_isPart dX10_share_34 rfl rfl (Nat.le_of_ble_eq_true rfl) (rmx_ok hR (by decide) (by decide) (by decide) (by decide)) (t_X10_isPart (nx := nx) (v := e) (by omega)) rfl ?_
          refine wp_ifne_bt G dX10_share_37 (fun kq10 => ?_) (fun kq10 => ?_)
          · skip
            obtain ⟨kp, ep⟩ := Int.eq_ofNat_of_zero_le (show 0 ≤ v by omega)
            subst ep
            obtain ⟨p, hp, ep⟩ := hO.2.2.2.2 kp (by omega)
            subst ep
            have hop := hO.o p hp
            refine wp_aload_n G 0 dX10_share_44 rfl ?_
            refine wp_iload_n G 1 dX10_share_45 rfl ?_
            refine wp_iconst G dX10_share_46 ?_
            refine wp_iload_n G 3 dX10_share_47 rfl ?_
            refine wp_cVE (b := 64) (ci := 9) (as := [zI ((o p : Nat) : Int), zI (-1), zI b]) (rest := []) (hp2 := (nx, h, [])) G mX10_isCounted lX10_167 iX10_isCounted eX10_isCounted ⟨_, rfl, rfl⟩ dX10_share_48 h64 rfl rfl (Nat.le_of_ble_eq_true rfl) (rmx_ok hR (by decide) (by decide) (by decide) (by decide)) (t_X10_isCounted (nx := nx) (j := (o p)) (a := (-1)) (b := b) hQ hO hN hop (by omega) ri_b) rfl ?_
            refine wp_ifne_bt G dX10_share_51 (fun kq11 => ?_) (fun kq11 => ?_)
            · skip
              refine wp_iload_n G 2 dX10_share_58 rfl ?_
              refine wp_if_ge G dX10_share_59 (by omega) (fun kq12 => ?_) (fun kq12 => ?_)
              · skip
                obtain ⟨ww, e_ww⟩ := Int.eq_ofNat_of_zero_le (show 0 ≤ w from (by omega))
                subst e_ww
                refine wp_aload_n G 0 dX10_share_72 rfl ?_
                refine wp_iload_n G 2 dX10_share_73 rfl ?_
                refine wp_iload_n G 1 dX10_share_74 rfl ?_
                refine wp_iload_n G 3 dX10_share_75 rfl ?_
                refine wp_cVE (b := 64) (ci := 9) (as := [zI ((ww : Nat) : Int), zI ((o p : Nat) : Int), zI b]) (rest := []) (hp2 := (nx, h, [])) G mX10_mayBear lX10_217 iX10_mayBear eX10_mayBear ⟨_, rfl, rfl⟩ dX10_share_76 h64 rfl rfl (Nat.le_of_ble_eq_true rfl) (rmx_ok hR (by decide) (by decide) (by decide) (by decide)) (t_X10_mayBear (nx := nx) (i := ww) (j := (o p)) (b := b) hQ hO hN (by omega) hop ri_b) rfl ?_
                refine wp_ifeq_bt G dX10_share_79 (fun kq13 => ?_) (fun kq13 => ?_)
                · skip
                  refine wp_lconst (z := 0) G dX10_share_92 (by decide) ?_
                  refine wp_lstore (lv' := [(5, zJ 0), (0, zR 64), (1, zI ((o p : Nat) : Int)), (2, zI ((ww : Nat) : Int)), (3, zI b), (4, zI e)]) G dX10_share_93 (by decide) rfl ?_
                  have hal : 0 ≤ sumZ (fun r => ifZ (cnd q (-1) b (o r)) (wpl pr fa sp q o p r) 0) p ∧ sumZ (fun r => ifZ (cnd q (-1) b (o r)) (wpl pr fa sp q o p r) 0) p ≤ 40000000 := swl_b hS hO p (by omega)
                  rw [← all_w hO hp] at hal
                  refine wp_lload G 0 dX10_share_95 rfl ?_
                  refine wp_aload_n G 1 dX10_share_97 rfl ?_
                  refine wp_iload_n G 2 dX10_share_98 rfl ?_
                  refine wp_iload_n G 4 dX10_share_99 rfl ?_
                  refine wp_cVE (b := 64) (ci := 9) (as := [zI ((o p : Nat) : Int), zI b]) (rest := [zJ 0]) (hp2 := (nx, h, [])) G mX10_allWeights lX10_223 iX10_allWeights eX10_allWeights ⟨_, rfl, rfl⟩ dX10_share_100 h64 rfl rfl (Nat.le_of_ble_eq_true rfl) (rmx_ok hR (by decide) (by decide) (by decide) (by decide)) (t_X10_allWeights (nx := nx) (j := (o p)) (b := b) hQ hO hN hMs hS hop ri_b) rfl ?_
                  refine wp_iload G 5 dX10_share_103 rfl ?_
                  refine wp_cSE (as := [zJ 0, zJ (st 3 + sumZ (fun i => ifZ (cnd q (-1) b i ∧ ahd q i (o p)) (wgt pr fa sp q i (q 2 (o p)) (q 3 (o p)) (q 1 (o p))) 0) n), zI e]) (rest := []) (hp2 := (nx, h, [])) G mX10_lowest lX10_188 sX10_lowest dX10_share_105 rfl rfl (Nat.le_of_ble_eq_true rfl) (rmx_ok hR (by decide) (by decide) (by decide) (by decide)) (t_X10_lowestI (nx := nx) (a := 0) (b := (st 3 + sumZ (fun i => ifZ (cnd q (-1) b i ∧ ahd q i (o p)) (wgt pr fa sp q i (q 2 (o p)) (q 3 (o p)) (q 1 (o p))) 0) n)) (p := e) (by omega) (by omega) (by omega)) rfl ?_
                  exact wp_lreturn G hr dX10_share_108 ⟨by exact congrArg (fun z => some (zJ z)) (ansH_4 hop (by omega) (by omega) (by assumption) (by unfold shW; first | (rw [if_pos (by omega)]; done) | (rw [if_neg (by omega)]; simp only [Int.toNat_natCast]; first | (rw [ifZ_y (by assumption)]; done) | (rw [ifZ_n (by assumption)]))) rfl), rfl, by rfl⟩
                · skip
                  have hwi := wgt_b (i := ww) hS hO (by omega) (q 2 (o p)) (q 3 (o p)) (q 1 (o p))
                  refine wp_aload_n G 0 dX10_share_82 rfl ?_
                  refine wp_iload_n G 1 dX10_share_83 rfl ?_
                  refine wp_iload_n G 2 dX10_share_84 rfl ?_
                  refine wp_cVE (b := 64) (ci := 9) (as := [zI ((o p : Nat) : Int), zI ((ww : Nat) : Int)]) (rest := []) (hp2 := (nx, h, [])) G mX10_weightOf lX10_220 iX10_weightOf eX10_weightOf ⟨_, rfl, rfl⟩ dX10_share_85 h64 rfl rfl (Nat.le_of_ble_eq_true rfl) (rmx_ok hR (by decide) (by decide) (by decide) (by decide)) (t_X10_weightOf (nx := nx) (j := (o p)) (i := ww) hQ hO hN hMs hS hop (by omega)) rfl ?_
                  refine wp_i2l G (by omega) dX10_share_88 ?_
                  refine wp_goto G dX10_share_89 ?_
                  refine wp_lstore (lv' := [(5, zJ (wgt pr fa sp q ww (q 2 (o p)) (q 3 (o p)) (q 1 (o p)))), (0, zR 64), (1, zI ((o p : Nat) : Int)), (2, zI ((ww : Nat) : Int)), (3, zI b), (4, zI e)]) G dX10_share_93 (by decide) rfl ?_
                  have hal : 0 ≤ sumZ (fun r => ifZ (cnd q (-1) b (o r)) (wpl pr fa sp q o p r) 0) p ∧ sumZ (fun r => ifZ (cnd q (-1) b (o r)) (wpl pr fa sp q o p r) 0) p ≤ 40000000 := swl_b hS hO p (by omega)
                  rw [← all_w hO hp] at hal
                  refine wp_lload G 0 dX10_share_95 rfl ?_
                  refine wp_aload_n G 1 dX10_share_97 rfl ?_
                  refine wp_iload_n G 2 dX10_share_98 rfl ?_
                  refine wp_iload_n G 4 dX10_share_99 rfl ?_
                  refine wp_cVE (b := 64) (ci := 9) (as := [zI ((o p : Nat) : Int), zI b]) (rest := [zJ (wgt pr fa sp q ww (q 2 (o p)) (q 3 (o p)) (q 1 (o p)))]) (hp2 := (nx, h, [])) G mX10_allWeights lX10_223 iX10_allWeights eX10_allWeights ⟨_, rfl, rfl⟩ dX10_share_100 h64 rfl rfl (Nat.le_of_ble_eq_true rfl) (rmx_ok hR (by decide) (by decide) (by decide) (by decide)) (t_X10_allWeights (nx := nx) (j := (o p)) (b := b) hQ hO hN hMs hS hop ri_b) rfl ?_
                  refine wp_iload G 5 dX10_share_103 rfl ?_
                  refine wp_cSE (as := [zJ (wgt pr fa sp q ww (q 2 (o p)) (q 3 (o p)) (q 1 (o p))), zJ (st 3 + sumZ (fun i => ifZ (cnd q (-1) b i ∧ ahd q i (o p)) (wgt pr fa sp q i (q 2 (o p)) (q 3 (o p)) (q 1 (o p))) 0) n), zI e]) (rest := []) (hp2 := (nx, h, [])) G mX10_lowest lX10_188 sX10_lowest dX10_share_105 rfl rfl (Nat.le_of_ble_eq_true rfl) (rmx_ok hR (by decide) (by decide) (by decide) (by decide)) (t_X10_lowestI (nx := nx) (a := (wgt pr fa sp q ww (q 2 (o p)) (q 3 (o p)) (q 1 (o p)))) (b := (st 3 + sumZ (fun i => ifZ (cnd q (-1) b i ∧ ahd q i (o p)) (wgt pr fa sp q i (q 2 (o p)) (q 3 (o p)) (q 1 (o p))) 0) n)) (p := e) (by omega) (by omega) (by omega)) rfl ?_
                  exact wp_lreturn G hr dX10_share_108 ⟨by exact congrArg (fun z => some (zJ z)) (ansH_4 hop (by omega) (by omega) (by assumption) (by unfold shW; first | (rw [if_pos (by omega)]; done) | (rw [if_neg (by omega)]; simp only [Int.toNat_natCast]; first | (rw [ifZ_y (by assumption)]; done) | (rw [ifZ_n (by assumption)]))) rfl), rfl, by rfl⟩
              · skip
                refine wp_aload_n G 0 dX10_share_62 rfl ?_
                refine wp_get G 8 cOk9 fX10_32 dX10_share_63 h64 rfl ?_
                refine wp_iconst G dX10_share_66 ?_
                refine wp_iald (j := 3) G dX10_share_67 h72 rfl (by decide) (by decide) ?_
                have rrq2 := hN.r 3 (by decide)
                refine wp_i2l G (by omega) dX10_share_68 ?_
                refine wp_goto G dX10_share_69 ?_
                refine wp_lstore (lv' := [(5, zJ (st 3)), (0, zR 64), (1, zI ((o p : Nat) : Int)), (2, zI w), (3, zI b), (4, zI e)]) G dX10_share_93 (by decide) rfl ?_
                have hal : 0 ≤ sumZ (fun r => ifZ (cnd q (-1) b (o r)) (wpl pr fa sp q o p r) 0) p ∧ sumZ (fun r => ifZ (cnd q (-1) b (o r)) (wpl pr fa sp q o p r) 0) p ≤ 40000000 := swl_b hS hO p (by omega)
                rw [← all_w hO hp] at hal
                refine wp_lload G 0 dX10_share_95 rfl ?_
                refine wp_aload_n G 1 dX10_share_97 rfl ?_
                refine wp_iload_n G 2 dX10_share_98 rfl ?_
                refine wp_iload_n G 4 dX10_share_99 rfl ?_
                refine wp_cVE (b := 64) (ci := 9) (as := [zI ((o p : Nat) : Int), zI b]) (rest := [zJ (st 3)]) (hp2 := (nx, h, [])) G mX10_allWeights lX10_223 iX10_allWeights eX10_allWeights ⟨_, rfl, rfl⟩ dX10_share_100 h64 rfl rfl (Nat.le_of_ble_eq_true rfl) (rmx_ok hR (by decide) (by decide) (by decide) (by decide)) (t_X10_allWeights (nx := nx) (j := (o p)) (b := b) hQ hO hN hMs hS hop ri_b) rfl ?_
                refine wp_iload G 5 dX10_share_103 rfl ?_
                refine wp_cSE (as := [zJ (st 3), zJ (st 3 + sumZ (fun i => ifZ (cnd q (-1) b i ∧ ahd q i (o p)) (wgt pr fa sp q i (q 2 (o p)) (q 3 (o p)) (q 1 (o p))) 0) n), zI e]) (rest := []) (hp2 := (nx, h, [])) G mX10_lowest lX10_188 sX10_lowest dX10_share_105 rfl rfl (Nat.le_of_ble_eq_true rfl) (rmx_ok hR (by decide) (by decide) (by decide) (by decide)) (t_X10_lowestI (nx := nx) (a := (st 3)) (b := (st 3 + sumZ (fun i => ifZ (cnd q (-1) b i ∧ ahd q i (o p)) (wgt pr fa sp q i (q 2 (o p)) (q 3 (o p)) (q 1 (o p))) 0) n)) (p := e) (by omega) (by omega) (by omega)) rfl ?_
                exact wp_lreturn G hr dX10_share_108 ⟨by exact congrArg (fun z => some (zJ z)) (ansH_4 hop (by omega) (by omega) (by assumption) (by unfold shW; first | (rw [if_pos (by omega)]; done) | (rw [if_neg (by omega)]; simp only [Int.toNat_natCast]; first | (rw [ifZ_y (by assumption)]; done) | (rw [ifZ_n (by assumption)]))) rfl), rfl, by rfl⟩
            · skip
              refine wp_ldc2 (z := -1000000000000000003) G kX10_186 dX10_share_54 ?_
              exact wp_lreturn G hr dX10_share_57 ⟨by first | (rw [ansH, if_pos (by omega)]; done) | (rw [ansH, if_neg (by omega), if_pos (by omega)]; done) | (rw [ansH, if_neg (by omega), if_neg (by omega), ifZ_n (by assumption)]; done), rfl, by rfl⟩
          · skip
            refine wp_ldc2 (z := -1000000000000000002) G kX10_184 dX10_share_40 ?_
            exact wp_lreturn G hr dX10_share_43 ⟨by first | (rw [ansH, if_pos (by omega)]; done) | (rw [ansH, if_neg (by omega), if_pos (by omega)]; done) | (rw [ansH, if_neg (by omega), if_neg (by omega), ifZ_n (by assumption)]; done), rfl, by rfl⟩
      · skip
        refine wp_ldc2 (z := -1000000000000000001) G kX10_179 dX10_share_21 ?_
        exact wp_lreturn G hr dX10_share_24 ⟨by first | (rw [ansH, if_pos (by omega)]; done) | (rw [ansH, if_neg (by omega), if_pos (by omega)]; done) | (rw [ansH, if_neg (by omega), if_neg (by omega), ifZ_n (by assumption)]; done), rfl, by rfl⟩

