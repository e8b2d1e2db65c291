def mQ (q : Nat → Nat → Int) (i j : Nat) : Int := (if 0 ≤ (q 1 i - q 1 j) then (q 1 i - q 1 j) else -(q 1 i - q 1 j)) + (farZ (q 2 i) (q 3 i) (q 2 j) (q 3 j)) + (if 0 ≤ (q 4 i - q 4 j) then (q 4 i - q 4 j) else -(q 4 i - q 4 j))

set_option maxRecDepth 100000 in
set_option maxHeartbeats 4000000 in
theorem t_X3_sumUp {nx : Nat} {h : Nat → Option PC} {n : Nat} {q : Nat → Nat → Int} {o : Nat → Nat} {pa : Int} {mi : Int} {rw_ : Nat} {pt : Nat} {cl : Nat} {u : Nat → Int} {v : Nat → Int} {sl : Nat → Int} {ro : Nat → Int} {be : Nat → Int} {re : Nat → Int} {A : Nat → Int} {B : Nat → Int} {la : Nat → Nat} {lb : Nat → Nat} {rn : Nat → Nat} (hQ : isQ h n q o) (hO : okQ n q o) (hJ : isJo h pa mi rw_ pt cl u v sl ro be re) (hrw : rw_ ≤ 12) (hcl : cl ≤ 24) (hre : ∀ j, j < 25 → re j = 0 ∨ re j = 1) (h12 : h 12 = some (oA 0 12 A)) (h13 : h 13 = some (oA 0 12 B)) (hpt : pt ≤ 12) (hpc : pt ≤ cl) (hA : ∀ i, i < rw_ → A i = ((la i : Nat) : Int) ∧ la i < n) (hB : ∀ j, j < pt → B j = ((lb j : Nat) : Int) ∧ lb j < n) (hrn : ∀ j, 1 ≤ j → j < cl + 1 → ro j = ((rn j : Nat) : Int) ∧ rn j ≤ rw_) : Cx 4 (0, 0) yX3_sumUp cX3_sumUp 4 none [zR 11, zR 2] nx h (Rn nx [(11, oO 3 [zI (cntZ (fun c => rn (c + 1) ≠ 0) pt), zI (sumZ (fun c => ifZ (rn (c + 1) ≠ 0) (mQ q (la (rn (c + 1) - 1)) (lb c)) 0) pt), zI ((rw_ : Nat) : Int), zI ((pt : Nat) : Int), zI ((cl : Nat) : Int), zR 12, zR 13, zR 14, zR 28, zR 29, zR 30, zR 31, zR 32, zR 33])]) := by
  refine cx_of pnX3_sumUp (Nat.le_of_ble_eq_true rfl) ?_
  intro K G hr hnm hR
  obtain ⟨h2, h3, h4, h5, h6, h7, h8, h9, h10⟩ := id hQ
  have hn40 := hO.1
  obtain ⟨h11, h28, h29, h30, h31, h32, h33⟩ := id hJ
  show Wp K 4 (Mx K h (Rn nx [(11, oO 3 [zI (cntZ (fun c => rn (c + 1) ≠ 0) pt), zI (sumZ (fun c => ifZ (rn (c + 1) ≠ 0) (mQ q (la (rn (c + 1) - 1)) (lb c)) 0) pt), zI ((rw_ : Nat) : Int), zI ((pt : Nat) : Int), zI ((cl : Nat) : Int), zR 12, zR 13, zR 14, zR 28, zR 29, zR 30, zR 31, zR 32, zR 33])]) (0, 0)) (0, 0) 0 [(0, zR 11), (1, zR 2)] [] (nx, h, [])
  refine wp_aload_n G 0 dX3_sumUp_0 rfl ?_
  refine wp_iconst G dX3_sumUp_1 ?_
  refine wp_putE (hp2 := (nx, h, [(11, oO 3 [zI 0, zI mi, zI ((rw_ : Nat) : Int), zI ((pt : Nat) : Int), zI ((cl : Nat) : Int), zR 12, zR 13, zR 14, zR 28, zR 29, zR 30, zR 31, zR 32, zR 33])])) G 0 cOk3 fX3_11 dX3_sumUp_2 h11 (Nat.le_of_ble_eq_true rfl) (fit_int _) (fun _ e => by cases e; rfl) rfl ?_
  refine wp_aload_n G 0 dX3_sumUp_5 rfl ?_
  refine wp_iconst G dX3_sumUp_6 ?_
  refine wp_putE (hp2 := (nx, h, [(11, oO 3 [zI 0, zI 0, zI ((rw_ : Nat) : Int), zI ((pt : Nat) : Int), zI ((cl : Nat) : Int), zR 12, zR 13, zR 14, zR 28, zR 29, zR 30, zR 31, zR 32, zR 33])])) G 1 cOk3 fX3_15 dX3_sumUp_7 rfl (Nat.le_of_ble_eq_true rfl) (fit_int _) (fun _ e => by cases e; rfl) rfl ?_
  refine wp_iconst G dX3_sumUp_10 ?_
  refine wp_istore_n (lv' := [(2, zI 1), (0, zR 11), (1, zR 2)]) G dX3_sumUp_11 (by decide) rfl ?_
  refine wp_lv [1, 2, 0] rfl ?_
  suffices lp12 : ∀ (fu : Nat) (c : Nat) (pj : Int) (mj : Int) (v2 : Int), pt - c < fu → (v2 = ((c + 1 : Nat) : Int)) → (c ≤ pt) → (pj = (cntZ (fun c => rn (c + 1) ≠ 0) c)) → (mj = (sumZ (fun c => ifZ (rn (c + 1) ≠ 0) (mQ q (la (rn (c + 1) - 1)) (lb c)) 0) c)) → Wp K 4 (Mx K h (Rn nx [(11, oO 3 [zI (cntZ (fun c => rn (c + 1) ≠ 0) pt), zI (sumZ (fun c => ifZ (rn (c + 1) ≠ 0) (mQ q (la (rn (c + 1) - 1)) (lb c)) 0) pt), zI ((rw_ : Nat) : Int), zI ((pt : Nat) : Int), zI ((cl : Nat) : Int), zR 12, zR 13, zR 14, zR 28, zR 29, zR 30, zR 31, zR 32, zR 33])]) (0, 0)) (0, 0) 12 [(0, zR 11), (1, zR 2), (2, zI v2)] [] (nx, h, [(11, oO 3 [zI pj, zI mj, zI ((rw_ : Nat) : Int), zI ((pt : Nat) : Int), zI ((cl : Nat) : Int), zR 12, zR 13, zR 14, zR 28, zR 29, zR 30, zR 31, zR 32, zR 33])]) from lp12 _ 0 _ _ 1 (Nat.lt_succ_self _) (by omega) (by omega) (by rfl) (by rfl)
  intro fu
  induction fu with
  | zero => intro c pj mj v2 hm; exact absurd hm (Nat.not_lt_zero _)
  | succ fu ih12 =>
    intro c pj mj v2 hm12 e2 hi0 hpj hmj
    subst e2
    have hrc := hrn (c + 1)
    refine wp_iload_n G 2 dX3_sumUp_12 rfl ?_
    refine wp_aload_n G 0 dX3_sumUp_13 rfl ?_
    refine wp_get G 3 cOk3 fX3_21 dX3_sumUp_14 rfl rfl ?_
    refine wp_icmp_gt G dX3_sumUp_17 (by omega) (by omega) (fun kq1 => ?_) (fun kq1 => ?_)
    · skip
      exact wp_vreturn G hr dX3_sumUp_76 ⟨rfl, rfl, by rw [show c = pt by omega] at hpj hmj; rw [hpj, hmj]⟩
    · skip
      refine wp_aload_n G 0 dX3_sumUp_20 rfl ?_
      refine wp_get G 11 cOk3 fX3_49 dX3_sumUp_21 rfl rfl ?_
      refine wp_iload_n G 2 dX3_sumUp_24 rfl ?_
      refine wp_iald (j := c + 1) G dX3_sumUp_25 h31 rfl (by omega) (by decide) ?_
      rw [show ((ro (c + 1)) : Int) = ((rn (c + 1) : Nat) : Int) by exact (hrc (by omega) (by omega)).1]
      refine wp_istore_n (lv' := [(3, zI ((rn (c + 1) : Nat) : Int)), (0, zR 11), (1, zR 2), (2, zI ((c + 1 : Nat) : Int))]) G dX3_sumUp_26 (by decide) rfl ?_
      have hrc2 := (hrc (by omega) (by omega)).2
      refine wp_iload_n G 0 dX3_sumUp_27 rfl ?_
      refine wp_if_le G dX3_sumUp_28 (by omega) (fun kq2 => ?_) (fun kq2 => ?_)
      · skip
        refine wp_iinc (lv' := [(2, zI (((c + 1 : Nat) : Int) + 1)), (3, zI ((rn (c + 1) : Nat) : Int)), (0, zR 11), (1, zR 2)]) G 3 dX3_sumUp_70 rfl (by decide) rfl ?_
        refine wp_goto G dX3_sumUp_73 ?_
        refine wp_lv [2, 3, 0] rfl ?_
        exact ih12 (c + 1) _ _ (((c + 1 : Nat) : Int) + 1) (by omega) (by omega) (by omega) (by first | (rw [hpj, cntZ_y (by omega)]; done) | (rw [hpj, cntZ_n (by omega)])) (by first | (rw [hmj, sumZ, ifZ_y (by omega)]; rfl) | (rw [hmj, sumZ, ifZ_n (by omega)]; omega))
      · skip
        refine wp_aload_n G 1 dX3_sumUp_31 rfl ?_
        refine wp_dup G rfl dX3_sumUp_32 ?_
        refine wp_get G 0 cOk3 fX3_11 dX3_sumUp_33 rfl rfl ?_
        refine wp_iconst G dX3_sumUp_36 ?_
        refine wp_iadd G dX3_sumUp_37 ?_
        refine wp_putE (hp2 := (nx, h, [(11, oO 3 [zI (pj + 1), zI mj, zI ((rw_ : Nat) : Int), zI ((pt : Nat) : Int), zI ((cl : Nat) : Int), zR 12, zR 13, zR 14, zR 28, zR 29, zR 30, zR 31, zR 32, zR 33])])) G 0 cOk3 fX3_11 dX3_sumUp_38 rfl (Nat.le_of_ble_eq_true rfl) (fit_int _) (fun _ e => by cases e; rfl) rfl ?_
        refine wp_aload_n G 1 dX3_sumUp_41 rfl ?_
        refine wp_dup G rfl dX3_sumUp_42 ?_
        refine wp_get G 1 cOk3 fX3_15 dX3_sumUp_43 rfl rfl ?_
        refine wp_aload_n G 2 dX3_sumUp_46 rfl ?_
        refine wp_aload_n G 1 dX3_sumUp_47 rfl ?_
        refine wp_get G 5 cOk3 fX3_27 dX3_sumUp_48 rfl rfl ?_
        refine wp_iload_n G 0 dX3_sumUp_51 rfl ?_
        refine wp_iconst G dX3_sumUp_52 ?_
        refine wp_isub G dX3_sumUp_53 ?_
        refine wp_iald (j := (rn (c + 1) - 1)) G dX3_sumUp_54 h12 (by omega) (by omega) (by decide) ?_
        rw [(hA (rn (c + 1) - 1) (by omega)).1]
        have hai := (hA (rn (c + 1) - 1) (by omega)).2
        refine wp_aload_n G 1 dX3_sumUp_55 rfl ?_
        refine wp_get G 6 cOk3 fX3_31 dX3_sumUp_56 rfl rfl ?_
        refine wp_iload_n G 3 dX3_sumUp_59 rfl ?_
        refine wp_iconst G dX3_sumUp_60 ?_
        refine wp_isub G dX3_sumUp_61 ?_
        refine wp_iald (j := c) G dX3_sumUp_62 h13 (by omega) (by omega) (by decide) ?_
        rw [(hB c (by omega)).1]
        have hbc := (hB c (by omega)).2
        refine wp_cSE (as := [zR 2, zI ((la (rn (c + 1) - 1) : Nat) : Int), zI ((lb c : Nat) : Int)]) (rest := [zI mj, zR 11]) (hp2 := (nx, h, [(11, oO 3 [zI (pj + 1), zI mj, zI ((rw_ : Nat) : Int), zI ((pt : Nat) : Int), zI ((cl : Nat) : Int), zR 12, zR 13, zR 14, zR 28, zR 29, zR 30, zR 31, zR 32, zR 33])])) G mX3_missOf lX3_98 sX3_missOf dX3_sumUp_63 rfl rfl (Nat.le_of_ble_eq_true rfl) (rmx_ok hR (by decide) (by decide) (by decide) (by decide)) (t_X3_missOf (nx := nx) (i := (la (rn (c + 1) - 1))) (j := (lb c)) hQ hO (by omega) (by omega)) rfl ?_
        refine wp_iadd G dX3_sumUp_66 ?_
        refine wp_putE (hp2 := (nx, h, [(11, oO 3 [zI (pj + 1), zI (mj + ((if 0 ≤ (q 1 (la (rn (c + 1) - 1)) - q 1 (lb c)) then (q 1 (la (rn (c + 1) - 1)) - q 1 (lb c)) else -(q 1 (la (rn (c + 1) - 1)) - q 1 (lb c))) + (farZ (q 2 (la (rn (c + 1) - 1))) (q 3 (la (rn (c + 1) - 1))) (q 2 (lb c)) (q 3 (lb c))) + (if 0 ≤ (q 4 (la (rn (c + 1) - 1)) - q 4 (lb c)) then (q 4 (la (rn (c + 1) - 1)) - q 4 (lb c)) else -(q 4 (la (rn (c + 1) - 1)) - q 4 (lb c))))), zI ((rw_ : Nat) : Int), zI ((pt : Nat) : Int), zI ((cl : Nat) : Int), zR 12, zR 13, zR 14, zR 28, zR 29, zR 30, zR 31, zR 32, zR 33])])) G 1 cOk3 fX3_15 dX3_sumUp_67 rfl (Nat.le_of_ble_eq_true rfl) (fit_int _) (fun _ e => by cases e; rfl) rfl ?_
        refine wp_iinc (lv' := [(2, zI (((c + 1 : Nat) : Int) + 1)), (3, zI ((rn (c + 1) : Nat) : Int)), (0, zR 11), (1, zR 2)]) G 3 dX3_sumUp_70 rfl (by decide) rfl ?_
        refine wp_goto G dX3_sumUp_73 ?_
        refine wp_lv [2, 3, 0] rfl ?_
        exact ih12 (c + 1) _ _ (((c + 1 : Nat) : Int) + 1) (by omega) (by omega) (by omega) (by first | (rw [hpj, cntZ_y (by omega)]; done) | (rw [hpj, cntZ_n (by omega)])) (by first | (rw [hmj, sumZ, ifZ_y (by omega)]; rfl) | (rw [hmj, sumZ, ifZ_n (by omega)]; omega))

set_option maxRecDepth 100000 in
set_option maxHeartbeats 4000000 in
theorem t_X3_partnerOf {nx : Nat} {h : Nat → Option PC} {n : Nat} {q : Nat → Nat → Int} {o : Nat → Nat} {pa : Int} {mi : Int} {rw_ : Nat} {pt : Nat} {cl : Nat} {u : Nat → Int} {v : Nat → Int} {sl : Nat → Int} {ro : Nat → Int} {be : Nat → Int} {re : Nat → Int} {A : Nat → Int} {B : Nat → Int} {la : Nat → Nat} {lb : Nat → Nat} {rn : Nat → Nat} {x : Int} (hQ : isQ h n q o) (hO : okQ n q o) (hJ : isJo h pa mi rw_ pt cl u v sl ro be re) (hrw : rw_ ≤ 12) (hcl : cl ≤ 24) (hre : ∀ j, j < 25 → re j = 0 ∨ re j = 1) (h12 : h 12 = some (oA 0 12 A)) (h13 : h 13 = some (oA 0 12 B)) (hpt : pt ≤ 12) (hpc : pt ≤ cl) (hA : ∀ i, i < rw_ → A i = ((la i : Nat) : Int) ∧ la i < n) (hB : ∀ j, j < pt → B j = ((lb j : Nat) : Int) ∧ lb j < n) (hrn : ∀ j, 1 ≤ j → j < cl + 1 → ro j = ((rn j : Nat) : Int) ∧ rn j ≤ rw_) (ri_x : r32 x) : Cx 0 (0, 0) yX3_partnerOf cX3_partnerOf 4 (some .int) [zR 11, zI x] nx h (Rt (zI (srch (fun c => rn (c + 1) ≠ 0 ∧ ((la (rn (c + 1) - 1) : Nat) : Int) = x) (fun c => ((lb c : Nat) : Int)) pt)) nx []) := by
  refine cx_of pnX3_partnerOf (Nat.le_of_ble_eq_true rfl) ?_
  intro K G hr hnm hR
  obtain ⟨h2, h3, h4, h5, h6, h7, h8, h9, h10⟩ := id hQ
  have hn40 := hO.1
  obtain ⟨h11, h28, h29, h30, h31, h32, h33⟩ := id hJ
  show Wp K 4 (Mx K h (Rt (zI (srch (fun c => rn (c + 1) ≠ 0 ∧ ((la (rn (c + 1) - 1) : Nat) : Int) = x) (fun c => ((lb c : Nat) : Int)) pt)) nx []) (0, 0)) (0, 0) 0 [(0, zR 11), (1, zI x)] [] (nx, h, [])
  refine wp_iconst G dX3_partnerOf_0 ?_
  refine wp_istore_n (lv' := [(2, zI 1), (0, zR 11), (1, zI x)]) G dX3_partnerOf_1 (by decide) rfl ?_
  refine wp_lv [1, 2, 0] rfl ?_
  suffices lp2 : ∀ (fu : Nat) (c : Nat) (v2 : Int), pt - c < fu → (v2 = ((c + 1 : Nat) : Int)) → (c ≤ pt) → (∀ r, r < c → ¬ (rn (r + 1) ≠ 0 ∧ ((la (rn (r + 1) - 1) : Nat) : Int) = x)) → Wp K 4 (Mx K h (Rt (zI (srch (fun c => rn (c + 1) ≠ 0 ∧ ((la (rn (c + 1) - 1) : Nat) : Int) = x) (fun c => ((lb c : Nat) : Int)) pt)) nx []) (0, 0)) (0, 0) 2 [(0, zR 11), (1, zI x), (2, zI v2)] [] (nx, h, []) from lp2 _ 0 1 (Nat.lt_succ_self _) (by omega) (by omega) (by intro r hr; omega)
  intro fu
  induction fu with
  | zero => intro c v2 hm; exact absurd hm (Nat.not_lt_zero _)
  | succ fu ih2 =>
    intro c v2 hm2 e2 hi0 hno
    subst e2
    have hrc := hrn (c + 1)
    refine wp_iload_n G 2 dX3_partnerOf_2 rfl ?_
    refine wp_aload_n G 0 dX3_partnerOf_3 rfl ?_
    refine wp_get G 3 cOk3 fX3_21 dX3_partnerOf_4 h11 rfl ?_
    refine wp_icmp_gt G dX3_partnerOf_7 (by omega) (by omega) (fun kq1 => ?_) (fun kq1 => ?_)
    · skip
      refine wp_bipush G dX3_partnerOf_48 (by decide) ?_
      exact wp_ireturn G hr dX3_partnerOf_50 ⟨by rw [show c = pt by omega] at hno; rw [srch_no pt hno], rfl, by rfl⟩
    · skip
      refine wp_aload_n G 0 dX3_partnerOf_10 rfl ?_
      refine wp_get G 11 cOk3 fX3_49 dX3_partnerOf_11 h11 rfl ?_
      refine wp_iload_n G 2 dX3_partnerOf_14 rfl ?_
      refine wp_iald (j := c + 1) G dX3_partnerOf_15 h31 rfl (by omega) (by decide) ?_
      rw [show ((ro (c + 1)) : Int) = ((rn (c + 1) : Nat) : Int) by exact (hrc (by omega) (by omega)).1]
      refine wp_istore_n (lv' := [(3, zI ((rn (c + 1) : Nat) : Int)), (0, zR 11), (1, zI x), (2, zI ((c + 1 : Nat) : Int))]) G dX3_partnerOf_16 (by decide) rfl ?_
      have hrc2 := (hrc (by omega) (by omega)).2
      refine wp_iload_n G 0 dX3_partnerOf_17 rfl ?_
      refine wp_if_le G dX3_partnerOf_18 (by omega) (fun kq2 => ?_) (fun kq2 => ?_)
      · skip
        refine wp_iinc (lv' := [(2, zI (((c + 1 : Nat) : Int) + 1)), (3, zI ((rn (c + 1) : Nat) : Int)), (0, zR 11), (1, zI x)]) G 3 dX3_partnerOf_42 rfl (by decide) rfl ?_
        refine wp_goto G dX3_partnerOf_45 ?_
        refine wp_lv [2, 3, 0] rfl ?_
        exact ih2 (c + 1) (((c + 1 : Nat) : Int) + 1) (by omega) (by omega) (by omega) (by intro r hr; rcases Nat.lt_succ_iff_lt_or_eq.mp hr with e | e; exact hno r e; subst e; intro z; have z1 := z.1; have z2 := z.2; omega)
      · skip
        refine wp_aload_n G 1 dX3_partnerOf_21 rfl ?_
        refine wp_get G 5 cOk3 fX3_27 dX3_partnerOf_22 h11 rfl ?_
        refine wp_iload_n G 0 dX3_partnerOf_25 rfl ?_
        refine wp_iconst G dX3_partnerOf_26 ?_
        refine wp_isub G dX3_partnerOf_27 ?_
        refine wp_iald (j := (rn (c + 1) - 1)) G dX3_partnerOf_28 h12 (by omega) (by omega) (by decide) ?_
        rw [(hA (rn (c + 1) - 1) (by omega)).1]
        have hai := (hA (rn (c + 1) - 1) (by omega)).2
        refine wp_iload_n G 2 dX3_partnerOf_29 rfl ?_
        refine wp_icmp_ne G dX3_partnerOf_30 (by omega) (by omega) (fun kq3 => ?_) (fun kq3 => ?_)
        · skip
          refine wp_iinc (lv' := [(2, zI (((c + 1 : Nat) : Int) + 1)), (3, zI ((rn (c + 1) : Nat) : Int)), (0, zR 11), (1, zI x)]) G 3 dX3_partnerOf_42 rfl (by decide) rfl ?_
          refine wp_goto G dX3_partnerOf_45 ?_
          refine wp_lv [2, 3, 0] rfl ?_
          exact ih2 (c + 1) (((c + 1 : Nat) : Int) + 1) (by omega) (by omega) (by omega) (by intro r hr; rcases Nat.lt_succ_iff_lt_or_eq.mp hr with e | e; exact hno r e; subst e; intro z; have z1 := z.1; have z2 := z.2; omega)
        · skip
          refine wp_aload_n G 1 dX3_partnerOf_33 rfl ?_
          refine wp_get G 6 cOk3 fX3_31 dX3_partnerOf_34 h11 rfl ?_
          refine wp_iload_n G 3 dX3_partnerOf_37 rfl ?_
          refine wp_iconst G dX3_partnerOf_38 ?_
          refine wp_isub G dX3_partnerOf_39 ?_
          refine wp_iald (j := c) G dX3_partnerOf_40 h13 (by omega) (by omega) (by decide) ?_
          rw [(hB c (by omega)).1]
          have hbc := (hB c (by omega)).2
          exact wp_ireturn G hr dX3_partnerOf_41 ⟨by rw [srch_at (v := fun c => ((lb c : Nat) : Int)) hno ⟨by omega, by omega⟩ (Int.natCast_nonneg _) pt (by omega)], rfl, by rfl⟩

