theorem tm4b (a : Nat) : Int.tmod (((a % 4 : Nat) : Int) + 1) 4 = (((a + 1) % 4 : Nat) : Int) := by
  rw [Int.tmod_eq_emod_of_nonneg (by omega)]
  omega
theorem ri_s {sg R : Nat → Int} {i L : Nat} (hi : i < L) (h : ∀ k, k < tE sg i % 4 → R k = rA sg L k (tE sg i / 4)) (hd : ¬ dgt (sg i)) : ∀ k, k < tE sg (i + 1) % 4 → fup R (tE sg i % 4) (rV sg i) k = rA sg L k (tE sg (i + 1) / 4) := by
  intro k hk
  rw [tE_n hd] at hk ⊢
  by_cases c : tE sg i % 4 = 3
  · omega
  · have e : (tE sg i + 1) / 4 = tE sg i / 4 := by omega
    rw [e]
    by_cases e2 : k = tE sg i % 4
    · rw [e2, fup_self, rA_put hi hd]
    · rw [fup_ne _ _ e2]
      exact h k (by omega)
theorem sw_step {pr fa sp : Nat → Int} {q : Nat → Nat → Int} {o : Nat → Nat} {b : Int} {p k : Nat} (hah : ahd q (o k) (o p) ↔ k < p) : (cnd q (-1) b (o k) ∧ ahd q (o k) (o p) → sumZ (fun r => ifZ (cnd q (-1) b (o r)) (wpl pr fa sp q o p r) 0) (min (k + 1) p) = sumZ (fun r => ifZ (cnd q (-1) b (o r)) (wpl pr fa sp q o p r) 0) (min k p) + wpl pr fa sp q o p k) ∧ (¬ (cnd q (-1) b (o k) ∧ ahd q (o k) (o p)) → sumZ (fun r => ifZ (cnd q (-1) b (o r)) (wpl pr fa sp q o p r) 0) (min (k + 1) p) = sumZ (fun r => ifZ (cnd q (-1) b (o r)) (wpl pr fa sp q o p r) 0) (min k p)) := by
  constructor
  · rintro ⟨h1, h2⟩
    have hk := hah.mp h2
    rw [show min (k + 1) p = k + 1 by omega, show min k p = k by omega, sumZ, ifZ_y h1]
  · intro h
    rcases Nat.lt_or_ge k p with c | c
    · rw [show min (k + 1) p = k + 1 by omega, show min k p = k by omega, sumZ, ifZ_n (fun z => h ⟨z, hah.mpr c⟩)]
      omega
    · rw [show min (k + 1) p = p by omega, show min k p = p by omega]
theorem dr_no {S : Nat → Int} {L : Int} {k p : Nat} (hno : ∀ r, r < min k p → ¬ (0 ≤ L - S r ∧ L - S (r + 1) < 0)) (h2 : 0 ≤ L - S (min (k + 1) p)) : ∀ r, r < min (k + 1) p → ¬ (0 ≤ L - S r ∧ L - S (r + 1) < 0) := by
  intro r hr z
  by_cases c : r < min k p
  · exact hno r c z
  · have e : min (k + 1) p = r + 1 := by omega
    rw [e] at h2
    have := z.2
    omega

set_option maxRecDepth 100000 in
set_option maxHeartbeats 4000000 in
theorem t_X10_drawnFor {nx : Nat} {h : Nat → Option PC} {n : Nat} {q : Nat → Nat → Int} {o : Nat → Nat} {fc : Nat} {hn : Nat} {ln : Nat} {ma : Int} {mb : Int} {st : Nat → Int} {pr : Nat → Int} {fa : Nat → Int} {sp : Nat → Int} {p : Nat} {x : Int} {b : Int} (hQ : isM h n q o fc hn ln ma mb st) (hO : okQ n q o) (hN : okN st) (hMs : isMs h pr fa sp) (hS : okS pr fa sp) (hp : p < n) (hx : 0 ≤ x ∧ x ≤ 9000000000) (ri_b : r32 b) : Cx 4 (0, 0) yX10_drawnFor cX10_drawnFor 9 (some .int) [zR 64, zI ((o p : Nat) : Int), zJ x, zI b] nx h (Rt (zI (srch (fun r => 0 ≤ (x - st 3) - sumZ (fun r => ifZ (cnd q (-1) b (o r)) (wpl pr fa sp q o p r) 0) r ∧ (x - st 3) - sumZ (fun r => ifZ (cnd q (-1) b (o r)) (wpl pr fa sp q o p r) 0) (r + 1) < 0) (fun r => ((o r : Nat) : Int)) p)) nx []) := by
  refine cx_of pnX10_drawnFor (Nat.le_of_ble_eq_true rfl) ?_
  intro K G hr hnm hR
  obtain ⟨h64, h65, h66, h67, h68, h69, h70, h71, h72, h73⟩ := id hQ
  have hn40 := hO.1
  obtain ⟨hN0, hN1, hN2, hN3, hN4⟩ := id hN
  obtain ⟨h77, h78, h79⟩ := id hMs
  have hop := hO.o p hp
  have hsb : ∀ r, r ≤ n → 0 ≤ sumZ (fun r => ifZ (cnd q (-1) b (o r)) (wpl pr fa sp q o p r) 0) r ∧ sumZ (fun r => ifZ (cnd q (-1) b (o r)) (wpl pr fa sp q o p r) 0) r ≤ 40000000 := swl_b hS hO
  show Wp K 9 (Mx K h (Rt (zI (srch (fun r => 0 ≤ (x - st 3) - sumZ (fun r => ifZ (cnd q (-1) b (o r)) (wpl pr fa sp q o p r) 0) r ∧ (x - st 3) - sumZ (fun r => ifZ (cnd q (-1) b (o r)) (wpl pr fa sp q o p r) 0) (r + 1) < 0) (fun r => ((o r : Nat) : Int)) p)) nx []) (0, 0)) (0, 0) 0 [(0, zR 64), (1, zI ((o p : Nat) : Int)), (2, zJ x), (4, zI b)] [] (nx, h, [])
  refine wp_lload_n G 2 dX10_drawnFor_0 rfl ?_
  refine wp_aload_n G 0 dX10_drawnFor_1 rfl ?_
  refine wp_get G 8 cOk9 fX10_32 dX10_drawnFor_2 h64 rfl ?_
  refine wp_iconst G dX10_drawnFor_5 ?_
  refine wp_iald (j := 3) G dX10_drawnFor_6 h72 rfl (by decide) (by decide) ?_
  have rrq1 := hN.r 3 (by decide)
  refine wp_i2l G (by omega) dX10_drawnFor_7 ?_
  refine wp_lsub G dX10_drawnFor_8 ?_
  refine wp_lstore (lv' := [(5, zJ (x - (st 3))), (0, zR 64), (1, zI ((o p : Nat) : Int)), (2, zJ x), (4, zI b)]) G dX10_drawnFor_9 (by decide) rfl ?_
  refine wp_lload G 0 dX10_drawnFor_11 rfl ?_
  refine wp_lconst (z := 0) G dX10_drawnFor_13 (by decide) ?_
  refine wp_lcmp G (by omega) (by omega) dX10_drawnFor_14 ?_
  refine wp_if_ge G dX10_drawnFor_15 (cmpZ_r _ _) (fun kq1 => ?_) (fun kq1 => ?_)
  · have kq1 : 0 ≤ (x - (st 3)) := Int.not_lt.mp (fun z => absurd (cmpZ_lt.mpr z) (Int.not_lt.mpr kq1))
    refine wp_iconst G dX10_drawnFor_21 ?_
    refine wp_istore (lv' := [(7, zI 0), (5, zJ (x - (st 3))), (0, zR 64), (1, zI ((o p : Nat) : Int)), (2, zJ x), (4, zI b)]) G dX10_drawnFor_22 (by decide) rfl ?_
    refine wp_lv [2, 3, 4, 5, 1, 0] rfl ?_
    suffices lp24 : ∀ (fu : Nat) (k : Nat) (v5 : Int) (v7 : Int), n - k < fu → (v5 = ((x - st 3) - sumZ (fun r => ifZ (cnd q (-1) b (o r)) (wpl pr fa sp q o p r) 0) (min k p))) → (v7 = ((k : Nat) : Int)) → (k ≤ n) → (0 ≤ (x - st 3) - sumZ (fun r => ifZ (cnd q (-1) b (o r)) (wpl pr fa sp q o p r) 0) (min k p)) → (∀ r, r < min k p → ¬ (0 ≤ (x - st 3) - sumZ (fun r => ifZ (cnd q (-1) b (o r)) (wpl pr fa sp q o p r) 0) r ∧ (x - st 3) - sumZ (fun r => ifZ (cnd q (-1) b (o r)) (wpl pr fa sp q o p r) 0) (r + 1) < 0)) → Wp K 9 (Mx K h (Rt (zI (srch (fun r => 0 ≤ (x - st 3) - sumZ (fun r => ifZ (cnd q (-1) b (o r)) (wpl pr fa sp q o p r) 0) r ∧ (x - st 3) - sumZ (fun r => ifZ (cnd q (-1) b (o r)) (wpl pr fa sp q o p r) 0) (r + 1) < 0) (fun r => ((o r : Nat) : Int)) p)) nx []) (0, 0)) (0, 0) 24 [(0, zR 64), (1, zI ((o p : Nat) : Int)), (2, zJ x), (4, zI b), (5, zJ v5), (7, zI v7)] [] (nx, h, []) from lp24 _ 0 (x - (st 3)) 0 (Nat.lt_succ_self _) (by rw [Nat.zero_min, sumZ]; omega) (by omega) (by omega) (by rw [Nat.zero_min, sumZ]; omega) (by intro r hr; omega)
    intro fu
    induction fu with
    | zero => intro k v5 v7 hm; exact absurd hm (Nat.not_lt_zero _)
    | succ fu ih24 =>
      intro k v5 v7 hm24 e5 e7 hi0 hge hno
      subst e5
      subst e7
      have hsk := hsb (min k p) (by omega)
      have hwk := fun z => wpl_b (p := p) hS hO (r := k) z
      have hah := fun z => ahd_lt hO (r := k) (p := p) z hp
      refine wp_iload G 5 dX10_drawnFor_24 rfl ?_
      refine wp_aload_n G 0 dX10_drawnFor_26 rfl ?_
      refine wp_get G 7 cOk9 fX10_96 dX10_drawnFor_27 h64 rfl ?_
      refine wp_icmp_ge G dX10_drawnFor_30 (by omega) (by omega) (fun kq2 => ?_) (fun kq2 => ?_)
      · skip
        refine wp_bipush G dX10_drawnFor_83 (by decide) ?_
        exact wp_ireturn G hr dX10_drawnFor_85 ⟨by rw [show min k p = p by omega] at hno; rw [srch_no p hno], rfl, by rfl⟩
      · skip
        refine wp_aload_n G 0 dX10_drawnFor_33 rfl ?_
        refine wp_get G 9 cOk9 fX10_35 dX10_drawnFor_34 h64 rfl ?_
        refine wp_iload G 5 dX10_drawnFor_37 rfl ?_
        refine wp_iald (j := k) G dX10_drawnFor_39 h73 rfl (by omega) (by decide) ?_
        have rrq2 := hO.o k (by omega)
        refine wp_istore (lv' := [(8, zI ((o k : Nat) : Int)), (0, zR 64), (1, zI ((o p : Nat) : Int)), (2, zJ x), (4, zI b), (5, zJ ((x - st 3) - sumZ (fun r => ifZ (cnd q (-1) b (o r)) (wpl pr fa sp q o p r) 0) (min k p))), (7, zI ((k : Nat) : Int))]) G dX10_drawnFor_40 (by decide) rfl ?_
        have hok := hO.o k (by omega)
        have hah2 := hah (by omega)
        have hwk2 := hwk (by omega)
        have hwp : wpl pr fa sp q o p k = wgt pr fa sp q (o k) (q 2 (o p)) (q 3 (o p)) (q 1 (o p)) := rfl
        refine wp_aload_n G 1 dX10_drawnFor_42 rfl ?_
        refine wp_iload G 0 dX10_drawnFor_43 rfl ?_
        refine wp_iload_n G 2 dX10_drawnFor_45 rfl ?_
        refine wp_iload G 4 dX10_drawnFor_46 rfl ?_
        refine wp_cVE (b := 64) (ci := 9) (as := [zI ((o k : Nat) : Int), zI ((o p : Nat) : Int), zI b]) (rest := []) (hp2 := (nx, h, [])) G mX10_mayBear lX10_217 iX10_mayBear eX10_mayBear ⟨_, rfl, rfl⟩ dX10_drawnFor_48 h64 rfl rfl (Nat.le_of_ble_eq_true rfl) (rmx_ok hR (by decide) (by decide) (by decide) (by decide)) (t_X10_mayBear (nx := nx) (i := (o k)) (j := (o p)) (b := b) hQ hO hN hok hop ri_b) rfl ?_
        refine wp_ifeq_bt G dX10_drawnFor_51 (fun kq3 => ?_) (fun kq3 => ?_)
        · skip
          refine wp_iinc (lv' := [(7, zI (((k : Nat) : Int) + 1)), (8, zI ((o k : Nat) : Int)), (0, zR 64), (1, zI ((o p : Nat) : Int)), (2, zJ x), (4, zI b), (5, zJ ((x - st 3) - sumZ (fun r => ifZ (cnd q (-1) b (o r)) (wpl pr fa sp q o p r) 0) (min k p)))]) G 6 dX10_drawnFor_77 rfl (by decide) rfl ?_
          refine wp_goto G dX10_drawnFor_80 ?_
          refine wp_lv [2, 3, 4, 5, 6, 0] rfl ?_
          exact ih24 (k + 1) ((x - st 3) - sumZ (fun r => ifZ (cnd q (-1) b (o r)) (wpl pr fa sp q o p r) 0) (min k p)) (((k : Nat) : Int) + 1) (by omega) (by have hst := sw_step (pr := pr) (fa := fa) (sp := sp) (b := b) (q := q) (o := o) hah2; first | (have hsy := hst.1 kq3; omega) | (have hsn := hst.2 kq3; omega)) (by omega) (by omega) (by have hst := sw_step (pr := pr) (fa := fa) (sp := sp) (b := b) (q := q) (o := o) hah2; first | (have hsy := hst.1 kq3; omega) | (have hsn := hst.2 kq3; omega)) (by exact dr_no hno (by have hst := sw_step (pr := pr) (fa := fa) (sp := sp) (b := b) (q := q) (o := o) hah2; first | (have hsy := hst.1 kq3; omega) | (have hsn := hst.2 kq3; omega)))
        · skip
          refine wp_lload G 5 dX10_drawnFor_54 rfl ?_
          refine wp_aload_n G 1 dX10_drawnFor_56 rfl ?_
          refine wp_iload_n G 2 dX10_drawnFor_57 rfl ?_
          refine wp_iload G 0 dX10_drawnFor_58 rfl ?_
          refine wp_cVE (b := 64) (ci := 9) (as := [zI ((o p : Nat) : Int), zI ((o k : Nat) : Int)]) (rest := [zJ ((x - st 3) - sumZ (fun r => ifZ (cnd q (-1) b (o r)) (wpl pr fa sp q o p r) 0) (min k p))]) (hp2 := (nx, h, [])) G mX10_weightOf lX10_220 iX10_weightOf eX10_weightOf ⟨_, rfl, rfl⟩ dX10_drawnFor_60 h64 rfl rfl (Nat.le_of_ble_eq_true rfl) (rmx_ok hR (by decide) (by decide) (by decide) (by decide)) (t_X10_weightOf (nx := nx) (j := (o p)) (i := (o k)) hQ hO hN hMs hS hop hok) rfl ?_
          refine wp_i2l G (by omega) dX10_drawnFor_63 ?_
          refine wp_lsub G dX10_drawnFor_64 ?_
          refine wp_lstore (lv' := [(5, zJ (((x - st 3) - sumZ (fun r => ifZ (cnd q (-1) b (o r)) (wpl pr fa sp q o p r) 0) (min k p)) - wgt pr fa sp q (o k) (q 2 (o p)) (q 3 (o p)) (q 1 (o p)))), (8, zI ((o k : Nat) : Int)), (0, zR 64), (1, zI ((o p : Nat) : Int)), (2, zJ x), (4, zI b), (7, zI ((k : Nat) : Int))]) G dX10_drawnFor_65 (by decide) rfl ?_
          refine wp_lload G 0 dX10_drawnFor_67 rfl ?_
          refine wp_lconst (z := 0) G dX10_drawnFor_69 (by decide) ?_
          refine wp_lcmp G (by omega) (by omega) dX10_drawnFor_70 ?_
          refine wp_if_ge G dX10_drawnFor_71 (cmpZ_r _ _) (fun kq4 => ?_) (fun kq4 => ?_)
          · have kq4 : 0 ≤ (((x - st 3) - sumZ (fun r => ifZ (cnd q (-1) b (o r)) (wpl pr fa sp q o p r) 0) (min k p)) - wgt pr fa sp q (o k) (q 2 (o p)) (q 3 (o p)) (q 1 (o p))) := Int.not_lt.mp (fun z => absurd (cmpZ_lt.mpr z) (Int.not_lt.mpr kq4))
            refine wp_iinc (lv' := [(7, zI (((k : Nat) : Int) + 1)), (5, zJ (((x - st 3) - sumZ (fun r => ifZ (cnd q (-1) b (o r)) (wpl pr fa sp q o p r) 0) (min k p)) - wgt pr fa sp q (o k) (q 2 (o p)) (q 3 (o p)) (q 1 (o p)))), (8, zI ((o k : Nat) : Int)), (0, zR 64), (1, zI ((o p : Nat) : Int)), (2, zJ x), (4, zI b)]) G 6 dX10_drawnFor_77 rfl (by decide) rfl ?_
            refine wp_goto G dX10_drawnFor_80 ?_
            refine wp_lv [3, 4, 5, 6, 1, 0] rfl ?_
            exact ih24 (k + 1) (((x - st 3) - sumZ (fun r => ifZ (cnd q (-1) b (o r)) (wpl pr fa sp q o p r) 0) (min k p)) - wgt pr fa sp q (o k) (q 2 (o p)) (q 3 (o p)) (q 1 (o p))) (((k : Nat) : Int) + 1) (by omega) (by have hst := sw_step (pr := pr) (fa := fa) (sp := sp) (b := b) (q := q) (o := o) hah2; first | (have hsy := hst.1 kq3; omega) | (have hsn := hst.2 kq3; omega)) (by omega) (by omega) (by have hst := sw_step (pr := pr) (fa := fa) (sp := sp) (b := b) (q := q) (o := o) hah2; first | (have hsy := hst.1 kq3; omega) | (have hsn := hst.2 kq3; omega)) (by exact dr_no hno (by have hst := sw_step (pr := pr) (fa := fa) (sp := sp) (b := b) (q := q) (o := o) hah2; first | (have hsy := hst.1 kq3; omega) | (have hsn := hst.2 kq3; omega)))
          · have kq4 : (((x - st 3) - sumZ (fun r => ifZ (cnd q (-1) b (o r)) (wpl pr fa sp q o p r) 0) (min k p)) - wgt pr fa sp q (o k) (q 2 (o p)) (q 3 (o p)) (q 1 (o p))) < 0 := cmpZ_lt.mp kq4
            refine wp_iload G 1 dX10_drawnFor_74 rfl ?_
            exact wp_ireturn G hr dX10_drawnFor_76 ⟨by have hkp := hah2.mp kq3.2; have hst := (sw_step (pr := pr) (fa := fa) (sp := sp) (b := b) (q := q) (o := o) hah2).1 kq3; rw [show min k p = k by omega] at hno hge hst kq4; rw [show min (k + 1) p = k + 1 by omega] at hst; rw [srch_at (v := fun r => ((o r : Nat) : Int)) hno ⟨hge, by omega⟩ (Int.natCast_nonneg _) p hkp], rfl, by rfl⟩
  · have kq1 : (x - (st 3)) < 0 := cmpZ_lt.mp kq1
    refine wp_bipush G dX10_drawnFor_18 (by decide) ?_
    exact wp_ireturn G hr dX10_drawnFor_20 ⟨by rw [srch_no p (fun r hr z => by have z1 := z.1; have z2 := hsb r (by omega); omega)], rfl, by rfl⟩

set_option maxRecDepth 100000 in
set_option maxHeartbeats 4000000 in
theorem t_X10_toldFor {nx : Nat} {h : Nat → Option PC} {n : Nat} {q : Nat → Nat → Int} {o : Nat → Nat} {fc : Nat} {hn : Nat} {ln : Nat} {ma : Int} {mb : Int} {st : Nat → Int} {sm : Nat → Int} {sl : Nat → Nat} {ri : Nat → Int} {sg : Nat → Int} {f : Nat} {d : Int} (hQ : isM h n q o fc hn ln ma mb st) (hO : okQ n q o) (hN : okN st) (hT : isMt h sm sl ri) (hsl : ∀ f, f < 7 → sl f ≤ 48) (hf6 : f < 6) (hsm : ∀ i, i < sl f → sm (48 * f + i) = sg i) (hfl : fltZ sg (sl f) = -6) (hsg : ∀ i, i < sl f → 33 ≤ sg i ∧ sg i ≤ 126) (hd : 0 ≤ d ∧ d ≤ 3999) : Cx 2 (0, 0) yX10_toldFor cX10_toldFor 6 (some .int) [zR 64, zI ((f : Nat) : Int), zI d] nx h (fun rr nx' l' => ∃ (R : Nat → Int), rr = some (zI (tlT q n sg (sl f) d)) ∧ nx' = nx ∧ l' = [(82, oA 0 4 R)]) := by
  refine cx_of pnX10_toldFor (Nat.le_of_ble_eq_true rfl) ?_
  intro K G hr hnm hR
  obtain ⟨h64, h65, h66, h67, h68, h69, h70, h71, h72, h73⟩ := id hQ
  have hn40 := hO.1
  obtain ⟨hN0, hN1, hN2, hN3, hN4⟩ := id hN
  obtain ⟨h80, h81, h82⟩ := id hT
  have hsl6 := hsl 6 (by decide)
  have hslf := hsl f (by omega)
  obtain ⟨hnob, he0, hed⟩ := flt_none hfl
  have hrb := rA_b (sl f) hnob
  show Wp K 6 (Mx K h (fun rr nx' l' => ∃ (R : Nat → Int), rr = some (zI (tlT q n sg (sl f) d)) ∧ nx' = nx ∧ l' = [(82, oA 0 4 R)]) (0, 0)) (0, 0) 0 [(0, zR 64), (1, zI ((f : Nat) : Int)), (2, zI d)] [] (nx, h, [])
  refine wp_iconst G dX10_toldFor_0 ?_
  refine wp_istore_n (lv' := [(3, zI 0), (0, zR 64), (1, zI ((f : Nat) : Int)), (2, zI d)]) G dX10_toldFor_1 (by decide) rfl ?_
  refine wp_iconst G dX10_toldFor_2 ?_
  refine wp_istore (lv' := [(4, zI 0), (3, zI 0), (0, zR 64), (1, zI ((f : Nat) : Int)), (2, zI d)]) G dX10_toldFor_3 (by decide) rfl ?_
  refine wp_bipush G dX10_toldFor_5 (by decide) ?_
  refine wp_iload_n G 3 dX10_toldFor_7 rfl ?_
  refine wp_imul G dX10_toldFor_8 ?_
  refine wp_istore (lv' := [(5, zI (48 * ((f : Nat) : Int))), (4, zI 0), (3, zI 0), (0, zR 64), (1, zI ((f : Nat) : Int)), (2, zI d)]) G dX10_toldFor_9 (by decide) rfl ?_
  refine wp_own (r := 82) (hp2 := (nx, h, [(82, oA 0 4 ri)])) h82 rfl ?_
  refine wp_lv [3, 4, 5, 2, 1, 0] rfl ?_
  suffices lp11 : ∀ (fu : Nat) (i : Nat) (R : Nat → Int) (v3 : Int) (v4 : Int) (v5 : Int), sl f - i < fu → (v3 = ((tE sg i % 4 : Nat) : Int)) → (v4 = rV sg i) → (v5 = ((48 * f + i : Nat) : Int)) → (i ≤ sl f) → (∀ k, k < tE sg i % 4 → R k = rA sg (sl f) k (tE sg i / 4)) → (telF (fun k => rA sg (sl f) 2 k < hma q n (rA sg (sl f) 0 k) (rA sg (sl f) 1 k) d) (rA sg (sl f) 3) (rV sg (sl f)) (tE sg (sl f) / 4) (tE sg (sl f) / 4 - tE sg i / 4) = tlT q n sg (sl f) d) → Wp K 6 (Mx K h (fun rr nx' l' => ∃ (R : Nat → Int), rr = some (zI (tlT q n sg (sl f) d)) ∧ nx' = nx ∧ l' = [(82, oA 0 4 R)]) (0, 0)) (0, 0) 11 [(0, zR 64), (1, zI ((f : Nat) : Int)), (2, zI d), (3, zI v3), (4, zI v4), (5, zI v5)] [] (nx, h, [(82, oA 0 4 R)]) from lp11 _ 0 ri 0 0 (48 * ((f : Nat) : Int)) (Nat.lt_succ_self _) (by rfl) (by rfl) (by omega) (by omega) (by intro k hk; rw [tE] at hk; omega) (by rw [tE, Nat.zero_div, Nat.sub_zero]; rfl)
  intro fu
  induction fu with
  | zero => intro i R v3 v4 v5 hm; exact absurd hm (Nat.not_lt_zero _)
  | succ fu ih11 =>
    intro i R v3 v4 v5 hm11 e3 e4 e5 hi0 hR3 htel
    subst e3
    subst e4
    subst e5
    have hrv := rV_b (sg := sg) (i := i) (fun r hr => hnob r (by omega))
    have hm4 : tE sg i % 4 < 4 := Nat.mod_lt _ (by omega)
    have h5 := txt_5 (sg := sg) (i := i) hslf hfl
    refine wp_iload G 5 dX10_toldFor_11 rfl ?_
    refine wp_bipush G dX10_toldFor_13 (by decide) ?_
    refine wp_iload_n G 1 dX10_toldFor_15 rfl ?_
    refine wp_imul G dX10_toldFor_16 ?_
    refine wp_aload_n G 0 dX10_toldFor_17 rfl ?_
    refine wp_get G 19 cOk9 fX10_60 dX10_toldFor_18 h64 rfl ?_
    refine wp_iload_n G 1 dX10_toldFor_21 rfl ?_
    refine wp_iald (j := f) G dX10_toldFor_22 h81 rfl (by omega) (by decide) ?_
    refine wp_iadd G dX10_toldFor_23 ?_
    refine wp_icmp_ge G dX10_toldFor_24 (by omega) (by omega) (fun kq1 => ?_) (fun kq1 => ?_)
    · skip
      refine wp_iload G 4 dX10_toldFor_140 rfl ?_
      refine wp_sipush G dX10_toldFor_142 (by decide) ?_
      refine wp_icmp_le G dX10_toldFor_145 (by omega) (by omega) (fun kq2 => ?_) (fun kq2 => ?_)
      · skip
        refine wp_iload G 4 dX10_toldFor_154 rfl ?_
        exact wp_ireturn G hr dX10_toldFor_156 ⟨R, by have hil : i = sl f := (by omega); rw [← htel, hil, Nat.sub_self, telF]; rw [hil] at kq2; first | rw [Int.min_eq_left (by omega)] | rw [Int.min_eq_right (by omega)], rfl, by rfl⟩
      · skip
        refine wp_sipush G dX10_toldFor_148 (by decide) ?_
        refine wp_goto G dX10_toldFor_151 ?_
        exact wp_ireturn G hr dX10_toldFor_156 ⟨R, by have hil : i = sl f := (by omega); rw [← htel, hil, Nat.sub_self, telF]; rw [hil] at kq2; first | rw [Int.min_eq_left (by omega)] | rw [Int.min_eq_right (by omega)], rfl, by rfl⟩
    · skip
      refine wp_aload_n G 0 dX10_toldFor_27 rfl ?_
      refine wp_get G 18 cOk9 fX10_57 dX10_toldFor_28 h64 rfl ?_
      refine wp_iload G 5 dX10_toldFor_31 rfl ?_
      refine wp_iald (j := 48 * f + i) G dX10_toldFor_33 h80 (by omega) (by omega) (by decide) ?_
      have hsk := hsg i (by omega)
      rw [hsm i (by omega)]
      refine wp_cSE (as := [zI (sg i)]) (rest := []) (hp2 := (nx, h, [(82, oA 0 4 R)])) G mX10_isDigit lX10_258 sX10_isDigit dX10_toldFor_34 rfl rfl (Nat.le_of_ble_eq_true rfl) (rmx_ok hR (by decide) (by decide) (by decide) (by decide)) (t_X10_isDigit (nx := nx) (v := (sg i)) (by omega)) rfl ?_
      refine wp_ifeq_bt G dX10_toldFor_37 (fun kq3 => ?_) (fun kq3 => ?_)
      · skip
        have hndg : ¬ dgt (sg i) := kq3
        have hput := rA_put (sg := sg) (L := sl f) (by omega) hndg
        refine wp_aload_n G 0 dX10_toldFor_61 rfl ?_
        refine wp_get G 21 cOk9 fX10_63 dX10_toldFor_62 h64 rfl ?_
        refine wp_iload_n G 3 dX10_toldFor_65 rfl ?_
        refine wp_iload G 4 dX10_toldFor_66 rfl ?_
        refine wp_iastE (j := tE sg i % 4) (hp2 := (nx, h, [(82, oA 0 4 (fup R (tE sg i % 4) (rV sg i)))])) G dX10_toldFor_68 rfl rfl (by omega) (by decide) rfl ?_
        refine wp_iconst G dX10_toldFor_69 ?_
        refine wp_istore (lv' := [(4, zI 0), (0, zR 64), (1, zI ((f : Nat) : Int)), (2, zI d), (3, zI ((tE sg i % 4 : Nat) : Int)), (5, zI ((48 * f + i : Nat) : Int))]) G dX10_toldFor_70 (by decide) rfl ?_
        refine wp_iload_n G 4 dX10_toldFor_72 rfl ?_
        refine wp_iconst G dX10_toldFor_73 ?_
        refine wp_icmp_ne G dX10_toldFor_74 (by omega) (by omega) (fun kq4 => ?_) (fun kq4 => ?_)
        · skip
          refine wp_iload_n G 4 dX10_toldFor_128 rfl ?_
          refine wp_iconst G dX10_toldFor_129 ?_
          refine wp_iadd G dX10_toldFor_130 ?_
          refine wp_iconst G dX10_toldFor_131 ?_
          refine wp_irem G (by omega) (by omega) (by omega) dX10_toldFor_132 ?_
          refine wp_istore_n (lv' := [(3, zI (Int.tmod (((tE sg i % 4 : Nat) : Int) + 1) 4)), (4, zI 0), (0, zR 64), (1, zI ((f : Nat) : Int)), (2, zI d), (5, zI ((48 * f + i : Nat) : Int))]) G dX10_toldFor_133 (by decide) rfl ?_
          refine wp_iinc (lv' := [(5, zI (((48 * f + i : Nat) : Int) + 1)), (3, zI (Int.tmod (((tE sg i % 4 : Nat) : Int) + 1) 4)), (4, zI 0), (0, zR 64), (1, zI ((f : Nat) : Int)), (2, zI d)]) G 5 dX10_toldFor_134 rfl (by decide) rfl ?_
          refine wp_goto G dX10_toldFor_137 ?_
          refine wp_lv [3, 4, 5, 1, 2, 0] rfl ?_
          exact ih11 (i + 1) (fup R (tE sg i % 4) (rV sg i)) (Int.tmod (((tE sg i % 4 : Nat) : Int) + 1) 4) 0 (((48 * f + i : Nat) : Int) + 1) (by omega) (by first | (rw [tE_y hdg]; done) | (rw [tE_n hndg]; exact tm4b _)) (by first | (rw [rV_y hdg]; omega) | (rw [rV_n hndg])) (by omega) (by omega) (by first | (rw [tE_y hdg]; exact hR3) | (exact ri_s (by omega) hR3 hndg)) (by first | (rw [tE_y hdg]; exact htel) | (rw [← htel, tE_n hndg, show (tE sg i + 1) / 4 = tE sg i / 4 by omega]) | (rw [← htel, tE_n hndg, show (tE sg i + 1) / 4 = tE sg i / 4 + 1 by omega, tel_n (k := tE sg i / 4) (R := (fun k => rA sg (sl f) 2 k < hma q n (rA sg (sl f) 0 k) (rA sg (sl f) 1 k) d)) (h5.2.2 (by omega) hndg) (by show ¬ (rA sg (sl f) 2 (tE sg i / 4) < hma q n (rA sg (sl f) 0 (tE sg i / 4)) (rA sg (sl f) 1 (tE sg i / 4)) d); rw [← hq0, ← hq1, ← hq2]; omega)]))
        · skip
          have hq0 : (fup R (tE sg i % 4) (rV sg i)) 0 = rA sg (sl f) 0 (tE sg i / 4) := by rw [fup_ne _ _ (by omega)]; exact hR3 0 (by omega)
          have hq1 : (fup R (tE sg i % 4) (rV sg i)) 1 = rA sg (sl f) 1 (tE sg i / 4) := by rw [fup_ne _ _ (by omega)]; exact hR3 1 (by omega)
          have hq2 : (fup R (tE sg i % 4) (rV sg i)) 2 = rA sg (sl f) 2 (tE sg i / 4) := by rw [fup_ne _ _ (by omega)]; exact hR3 2 (by omega)
          have hq3 : (fup R (tE sg i % 4) (rV sg i)) 3 = rA sg (sl f) 3 (tE sg i / 4) := by rw [← hput, show tE sg i % 4 = 3 by omega, fup_self]
          have hb0 := hrb 0 (tE sg i / 4)
          have hb1 := hrb 1 (tE sg i / 4)
          have hb2 := hrb 2 (tE sg i / 4)
          have hb3 := hrb 3 (tE sg i / 4)
          refine wp_aload_n G 1 dX10_toldFor_77 rfl ?_
          refine wp_iload_n G 3 dX10_toldFor_78 rfl ?_
          refine wp_aload_n G 1 dX10_toldFor_79 rfl ?_
          refine wp_get G 21 cOk9 fX10_63 dX10_toldFor_80 h64 rfl ?_
          refine wp_iconst G dX10_toldFor_83 ?_
          refine wp_iald (j := 0) G dX10_toldFor_84 rfl rfl (by decide) (by decide) ?_
          refine wp_aload_n G 1 dX10_toldFor_85 rfl ?_
          refine wp_get G 21 cOk9 fX10_63 dX10_toldFor_86 h64 rfl ?_
          refine wp_iconst G dX10_toldFor_89 ?_
          refine wp_iald (j := 1) G dX10_toldFor_90 rfl rfl (by decide) (by decide) ?_
          refine wp_cVE (b := 64) (ci := 9) (as := [zI d, zI (fup R (tE sg i % 4) (rV sg i) 0), zI (fup R (tE sg i % 4) (rV sg i) 1)]) (rest := []) (hp2 := (nx, h, [(82, oA 0 4 (fup R (tE sg i % 4) (rV sg i)))])) G mX10_manyAhead lX10_271 iX10_manyAhead eX10_manyAhead ⟨_, rfl, rfl⟩ dX10_toldFor_91 h64 rfl rfl (Nat.le_of_ble_eq_true rfl) (rmx_ok hR (by decide) (by decide) (by decide) (by decide)) (t_X10_manyAhead (nx := nx) (d := d) (y := (fup R (tE sg i % 4) (rV sg i) 0)) (m := (fup R (tE sg i % 4) (rV sg i) 1)) hQ hO hN hd (by omega) (by omega)) rfl ?_
          have hmb : 0 ≤ hma q n ((fup R (tE sg i % 4) (rV sg i)) 0) ((fup R (tE sg i % 4) (rV sg i)) 1) d ∧ hma q n ((fup R (tE sg i % 4) (rV sg i)) 0) ((fup R (tE sg i % 4) (rV sg i)) 1) d ≤ 40 := by have hz := cntZ_r (fun j => grt q ((fup R (tE sg i % 4) (rV sg i)) 1) j ∧ q 5 j < d ∧ d - ((fup R (tE sg i % 4) (rV sg i)) 0) ≤ q 1 j) n; unfold hma; omega
          refine wp_aload_n G 1 dX10_toldFor_94 rfl ?_
          refine wp_get G 21 cOk9 fX10_63 dX10_toldFor_95 h64 rfl ?_
          refine wp_iconst G dX10_toldFor_98 ?_
          refine wp_iald (j := 2) G dX10_toldFor_99 rfl rfl (by decide) (by decide) ?_
          refine wp_icmp_le G dX10_toldFor_100 (by omega) (by omega) (fun kq5 => ?_) (fun kq5 => ?_)
          · skip
            refine wp_iload_n G 4 dX10_toldFor_128 rfl ?_
            refine wp_iconst G dX10_toldFor_129 ?_
            refine wp_iadd G dX10_toldFor_130 ?_
            refine wp_iconst G dX10_toldFor_131 ?_
            refine wp_irem G (by omega) (by omega) (by omega) dX10_toldFor_132 ?_
            refine wp_istore_n (lv' := [(3, zI (Int.tmod (((tE sg i % 4 : Nat) : Int) + 1) 4)), (4, zI 0), (0, zR 64), (1, zI ((f : Nat) : Int)), (2, zI d), (5, zI ((48 * f + i : Nat) : Int))]) G dX10_toldFor_133 (by decide) rfl ?_
            refine wp_iinc (lv' := [(5, zI (((48 * f + i : Nat) : Int) + 1)), (3, zI (Int.tmod (((tE sg i % 4 : Nat) : Int) + 1) 4)), (4, zI 0), (0, zR 64), (1, zI ((f : Nat) : Int)), (2, zI d)]) G 5 dX10_toldFor_134 rfl (by decide) rfl ?_
            refine wp_goto G dX10_toldFor_137 ?_
            refine wp_lv [3, 4, 5, 1, 2, 0] rfl ?_
            exact ih11 (i + 1) (fup R (tE sg i % 4) (rV sg i)) (Int.tmod (((tE sg i % 4 : Nat) : Int) + 1) 4) 0 (((48 * f + i : Nat) : Int) + 1) (by omega) (by first | (rw [tE_y hdg]; done) | (rw [tE_n hndg]; exact tm4b _)) (by first | (rw [rV_y hdg]; omega) | (rw [rV_n hndg])) (by omega) (by omega) (by first | (rw [tE_y hdg]; exact hR3) | (exact ri_s (by omega) hR3 hndg)) (by first | (rw [tE_y hdg]; exact htel) | (rw [← htel, tE_n hndg, show (tE sg i + 1) / 4 = tE sg i / 4 by omega]) | (rw [← htel, tE_n hndg, show (tE sg i + 1) / 4 = tE sg i / 4 + 1 by omega, tel_n (k := tE sg i / 4) (R := (fun k => rA sg (sl f) 2 k < hma q n (rA sg (sl f) 0 k) (rA sg (sl f) 1 k) d)) (h5.2.2 (by omega) hndg) (by show ¬ (rA sg (sl f) 2 (tE sg i / 4) < hma q n (rA sg (sl f) 0 (tE sg i / 4)) (rA sg (sl f) 1 (tE sg i / 4)) d); rw [← hq0, ← hq1, ← hq2]; omega)]))
          · skip
            refine wp_aload_n G 1 dX10_toldFor_103 rfl ?_
            refine wp_get G 21 cOk9 fX10_63 dX10_toldFor_104 h64 rfl ?_
            refine wp_iconst G dX10_toldFor_107 ?_
            refine wp_iald (j := 3) G dX10_toldFor_108 rfl rfl (by decide) (by decide) ?_
            refine wp_sipush G dX10_toldFor_109 (by decide) ?_
            refine wp_icmp_le G dX10_toldFor_112 (by omega) (by omega) (fun kq6 => ?_) (fun kq6 => ?_)
            · skip
              refine wp_aload_n G 1 dX10_toldFor_121 rfl ?_
              refine wp_get G 21 cOk9 fX10_63 dX10_toldFor_122 h64 rfl ?_
              refine wp_iconst G dX10_toldFor_125 ?_
              refine wp_iald (j := 3) G dX10_toldFor_126 rfl rfl (by decide) (by decide) ?_
              exact wp_ireturn G hr dX10_toldFor_127 ⟨(fup R (tE sg i % 4) (rV sg i)), by unfold tlT at htel; unfold tlT; first | (rw [← htel, tel_y (R := (fun k => rA sg (sl f) 2 k < hma q n (rA sg (sl f) 0 k) (rA sg (sl f) 1 k) d)) (h5.2.2 (by omega) hndg) (by show rA sg (sl f) 2 (tE sg i / 4) < hma q n (rA sg (sl f) 0 (tE sg i / 4)) (rA sg (sl f) 1 (tE sg i / 4)) d; rw [← hq0, ← hq1, ← hq2]; omega), ← hq3]; first | rw [Int.min_eq_left (by omega)] | rw [Int.min_eq_right (by omega)]), rfl, by rfl⟩
            · skip
              refine wp_sipush G dX10_toldFor_115 (by decide) ?_
              refine wp_goto G dX10_toldFor_118 ?_
              exact wp_ireturn G hr dX10_toldFor_127 ⟨(fup R (tE sg i % 4) (rV sg i)), by unfold tlT at htel; unfold tlT; first | (rw [← htel, tel_y (R := (fun k => rA sg (sl f) 2 k < hma q n (rA sg (sl f) 0 k) (rA sg (sl f) 1 k) d)) (h5.2.2 (by omega) hndg) (by show rA sg (sl f) 2 (tE sg i / 4) < hma q n (rA sg (sl f) 0 (tE sg i / 4)) (rA sg (sl f) 1 (tE sg i / 4)) d; rw [← hq0, ← hq1, ← hq2]; omega), ← hq3]; first | rw [Int.min_eq_left (by omega)] | rw [Int.min_eq_right (by omega)]), rfl, by rfl⟩
      · skip
        have hdg : dgt (sg i) := kq3
        refine wp_bipush G dX10_toldFor_40 (by decide) ?_
        refine wp_iload G 4 dX10_toldFor_42 rfl ?_
        refine wp_imul G dX10_toldFor_44 ?_
        refine wp_aload_n G 0 dX10_toldFor_45 rfl ?_
        refine wp_get G 18 cOk9 fX10_57 dX10_toldFor_46 h64 rfl ?_
        refine wp_iload G 5 dX10_toldFor_49 rfl ?_
        refine wp_iald (j := 48 * f + i) G dX10_toldFor_51 h80 (by omega) (by omega) (by decide) ?_
        rw [hsm i (by omega)]
        refine wp_iadd G dX10_toldFor_52 ?_
        refine wp_bipush G dX10_toldFor_53 (by decide) ?_
        refine wp_isub G dX10_toldFor_55 ?_
        refine wp_istore (lv' := [(4, zI (((10 * rV sg i) + (sg i)) - 48)), (0, zR 64), (1, zI ((f : Nat) : Int)), (2, zI d), (3, zI ((tE sg i % 4 : Nat) : Int)), (5, zI ((48 * f + i : Nat) : Int))]) G dX10_toldFor_56 (by decide) rfl ?_
        refine wp_goto G dX10_toldFor_58 ?_
        refine wp_iinc (lv' := [(5, zI (((48 * f + i : Nat) : Int) + 1)), (4, zI (((10 * rV sg i) + (sg i)) - 48)), (0, zR 64), (1, zI ((f : Nat) : Int)), (2, zI d), (3, zI ((tE sg i % 4 : Nat) : Int))]) G 5 dX10_toldFor_134 rfl (by decide) rfl ?_
        refine wp_goto G dX10_toldFor_137 ?_
        refine wp_lv [2, 3, 4, 5, 1, 0] rfl ?_
        exact ih11 (i + 1) R ((tE sg i % 4 : Nat) : Int) (((10 * rV sg i) + (sg i)) - 48) (((48 * f + i : Nat) : Int) + 1) (by omega) (by first | (rw [tE_y hdg]; done) | (rw [tE_n hndg]; exact tm4b _)) (by first | (rw [rV_y hdg]; omega) | (rw [rV_n hndg])) (by omega) (by omega) (by first | (rw [tE_y hdg]; exact hR3) | (exact ri_s (by omega) hR3 hndg)) (by first | (rw [tE_y hdg]; exact htel) | (rw [← htel, tE_n hndg, show (tE sg i + 1) / 4 = tE sg i / 4 by omega]) | (rw [← htel, tE_n hndg, show (tE sg i + 1) / 4 = tE sg i / 4 + 1 by omega, tel_n (k := tE sg i / 4) (R := (fun k => rA sg (sl f) 2 k < hma q n (rA sg (sl f) 0 k) (rA sg (sl f) 1 k) d)) (h5.2.2 (by omega) hndg) (by show ¬ (rA sg (sl f) 2 (tE sg i / 4) < hma q n (rA sg (sl f) 0 (tE sg i / 4)) (rA sg (sl f) 1 (tE sg i / 4)) d); rw [← hq0, ← hq1, ← hq2]; omega)]))

