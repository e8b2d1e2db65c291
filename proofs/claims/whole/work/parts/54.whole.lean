noncomputable def ansW (n : Nat) (q : Nat → Nat → Int) (a b : Int) : Int := if ¬ (-1 ≤ a ∧ a ≤ 2) then -1 else if ¬ (0 ≤ b ∧ b ≤ 3999) then -2 else (cmb (cgc q a b n) 91).1
theorem ansW_1 {n : Nat} {q : Nat → Nat → Int} {a b : Int} (h : ¬ (-1 ≤ a ∧ a ≤ 2)) : ansW n q a b = -1 := if_pos h
theorem ansW_2 {n : Nat} {q : Nat → Nat → Int} {a b : Int} (h1 : -1 ≤ a ∧ a ≤ 2) (h : ¬ (0 ≤ b ∧ b ≤ 3999)) : ansW n q a b = -2 := by
  unfold ansW
  rw [if_neg (fun z => z h1), if_pos h]
theorem ansW_3 {n : Nat} {q : Nat → Nat → Int} {a b : Int} (h1 : -1 ≤ a ∧ a ≤ 2) (h : 0 ≤ b ∧ b ≤ 3999) : ansW n q a b = (cmb (cgc q a b n) 91).1 := by
  unfold ansW
  rw [if_neg (fun z => z h1), if_neg (fun z => z h)]
theorem cg_diff (q : Nat → Nat → Int) (a b : Int) (g : Nat) : ∀ n, cntZ (fun j => cnd q a b j ∧ ((g : Nat) : Int) ≤ q 4 j) n - cntZ (fun j => cnd q a b j ∧ ((g : Nat) : Int) + 1 ≤ q 4 j) n = cgc q a b n g
  | 0 => rfl
  | n + 1 => by
    have ih := cg_diff q a b g n
    unfold cgc at ih ⊢
    by_cases c : cnd q a b n
    · rcases Int.lt_trichotomy (q 4 n) ((g : Nat) : Int) with z | z | z
      · rw [cntZ_n (fun y => by have := y.2; omega), cntZ_n (fun y => by have := y.2; omega), cntZ_n (fun y => by have := y.2; omega)]; exact ih
      · rw [cntZ_y ⟨c, by omega⟩, cntZ_n (fun y => by have := y.2; omega), cntZ_y ⟨c, z⟩]; omega
      · rw [cntZ_y ⟨c, by omega⟩, cntZ_y ⟨c, by omega⟩, cntZ_n (fun y => by have := y.2; omega)]; omega
    · rw [cntZ_n (fun y => c y.1), cntZ_n (fun y => c y.1), cntZ_n (fun y => c y.1)]; exact ih

set_option maxRecDepth 100000 in
set_option maxHeartbeats 4000000 in
theorem t_X9_whole {nx : Nat} {h : Nat → Option PC} {n : Nat} {q : Nat → Nat → Int} {o : Nat → Nat} {ta : Nat → Int} {fc : Nat} {a : Int} {b : Int} (hQ : isQ h n q o) (hO : okQ n q o) (g34 : h 34 = some (oO 0 [zR 35])) (g35 : h 35 = some (oA 0 91 ta)) (h0 : h 0 = some (oO 8 [zR 1, zR 2, zR 11, zR 34, zR 36, zR 42, zR 44, zI ((fc : Nat) : Int), zR 45, zR 48])) (ri_a : r32 a) (ri_b : r32 b) : Cx 3 (0, 0) yX9_whole cX9_whole 3 (some .int) [zR 0, zI a, zI b] nx h (fun rr nx' l' => rr = some (zI (ansW n q a b)) ∧ nx' = nx ∧ (l' = [] ∨ ∃ R, l' = [(35, oA 0 91 R)])) := by
  refine cx_of pnX9_whole (Nat.le_of_ble_eq_true rfl) ?_
  intro K G hr hnm hR
  obtain ⟨h2, h3, h4, h5, h6, h7, h8, h9, h10⟩ := id hQ
  have hn40 := hO.1
  show Wp K 3 (Mx K h (fun rr nx' l' => rr = some (zI (ansW n q a b)) ∧ nx' = nx ∧ (l' = [] ∨ ∃ R, l' = [(35, oA 0 91 R)])) (0, 0)) (0, 0) 0 [(0, zR 0), (1, zI a), (2, zI b)] [] (nx, h, [])
  refine wp_iload_n G 1 dX9_whole_0 rfl ?_
  refine wp_cSE (as := [zI a]) (rest := []) (hp2 := (nx, h, [])) G mX9_isListOrAll lX9_153 sX9_isListOrAll dX9_whole_1 rfl rfl (Nat.le_of_ble_eq_true rfl) (rmx_ok hR (by decide) (by decide) (by decide) (by decide)) (t_X9_isListOrAll (nx := nx) (v := a) (by omega)) rfl ?_
  refine wp_ifne_bt G dX9_whole_4 (fun kq1 => ?_) (fun kq1 => ?_)
  · skip
    refine wp_iload_n G 2 dX9_whole_9 rfl ?_
    refine wp_cSE (as := [zI b]) (rest := []) (hp2 := (nx, h, [])) G mX9_isDay lX9_80 sX9_isDay dX9_whole_10 rfl rfl (Nat.le_of_ble_eq_true rfl) (rmx_ok hR (by decide) (by decide) (by decide) (by decide)) (t_X9_isDay (nx := nx) (v := b) (by omega)) rfl ?_
    refine wp_ifne_bt G dX9_whole_13 (fun kq2 => ?_) (fun kq2 => ?_)
    · skip
      refine wp_aload_n G 0 dX9_whole_19 rfl ?_
      refine wp_get G 3 cOk8 fX9_30 dX9_whole_20 h0 rfl ?_
      refine wp_aload_n G 0 dX9_whole_23 rfl ?_
      refine wp_get G 1 cOk8 fX9_16 dX9_whole_24 h0 rfl ?_
      refine wp_iload_n G 1 dX9_whole_27 rfl ?_
      refine wp_iload_n G 2 dX9_whole_28 rfl ?_
      refine wp_callV (mm := (0, 0)) (b := 34) (ci := 0) (as := [zR 2, zI a, zI b]) (rest := []) G mX0_commonest lX9_160 iX0_commonest eX0_commonest ⟨_, rfl, rfl⟩ dX9_whole_29 g34 rfl rfl (Nat.le_of_ble_eq_true rfl) (rmx_ok hR (by decide) (by decide) (by decide) (by decide)) (t_X0_commonest (nx := nx) (a := a) (b := b) hQ hO g34 g35 ri_a ri_b) (fun rr nx' l' hq => ?_)
      obtain ⟨Rp , rfl , enx , rfl⟩ := hq
      subst nx'
      show Wp K 3 (Mx K h (fun rr nx' l' => rr = some (zI (ansW n q a b)) ∧ nx' = nx ∧ (l' = [] ∨ ∃ R, l' = [(35, oA 0 91 R)])) (0, 0)) (0, 0) 32 [(0, zR 0), (1, zI a), (2, zI b)] [zI ((cmb (cgc q a b n) 91).1)] (nx, h, [(35, oA 0 91 Rp)])
      exact wp_ireturn G hr dX9_whole_32 (by exact ⟨by rw [ansW_3 (by omega) (by omega)], rfl, Or.inr ⟨Rp, rfl⟩⟩)
    · skip
      refine wp_bipush G dX9_whole_16 (by decide) ?_
      exact wp_ireturn G hr dX9_whole_18 (by exact ⟨by rw [ansW_2 (by omega) (by omega)], rfl, Or.inl rfl⟩)
  · skip
    refine wp_iconst G dX9_whole_7 ?_
    exact wp_ireturn G hr dX9_whole_8 (by exact ⟨by rw [ansW_1 (by omega)], rfl, Or.inl rfl⟩)

set_option maxRecDepth 100000 in
set_option maxHeartbeats 4000000 in
theorem t_X10_whole {nx : Nat} {h : Nat → Option PC} {n : Nat} {q : Nat → Nat → Int} {o : Nat → Nat} {fc : Nat} {hn : Nat} {ln : Nat} {ma : Int} {mb : Int} {st : Nat → Int} {a : Int} {b : Int} (hQ : isM h n q o fc hn ln ma mb st) (hO : okQ n q o) (hN : okN st) (ri_a : r32 a) (ri_b : r32 b) : Cx 3 (0, 0) yX10_whole cX10_whole 7 (some .int) [zR 64, zI a, zI b] nx h (Rt (zI (ansW n q a b)) nx []) := by
  refine cx_of pnX10_whole (Nat.le_of_ble_eq_true rfl) ?_
  intro K G hr hnm hR
  obtain ⟨h64, h65, h66, h67, h68, h69, h70, h71, h72, h73⟩ := id hQ
  have hn40 := hO.1
  obtain ⟨hN0, hN1, hN2, hN3, hN4⟩ := id hN
  show Wp K 7 (Mx K h (Rt (zI (ansW n q a b)) nx []) (0, 0)) (0, 0) 0 [(0, zR 64), (1, zI a), (2, zI b)] [] (nx, h, [])
  refine wp_iload_n G 1 dX10_whole_0 rfl ?_
  refine wp_cSE (as := [zI a]) (rest := []) (hp2 := (nx, h, [])) G mX10_mayList lX10_173 sX10_mayList dX10_whole_1 rfl rfl (Nat.le_of_ble_eq_true rfl) (rmx_ok hR (by decide) (by decide) (by decide) (by decide)) (t_X10_mayList (nx := nx) (v := a) (by omega)) rfl ?_
  refine wp_ifne_bt G dX10_whole_4 (fun kq1 => ?_) (fun kq1 => ?_)
  · skip
    refine wp_iload_n G 2 dX10_whole_9 rfl ?_
    refine wp_cSE (as := [zI b]) (rest := []) (hp2 := (nx, h, [])) G mX10_isDay lX10_120 sX10_isDay dX10_whole_10 rfl rfl (Nat.le_of_ble_eq_true rfl) (rmx_ok hR (by decide) (by decide) (by decide) (by decide)) (t_X10_isDay (nx := nx) (v := b) (by omega)) rfl ?_
    refine wp_ifne_bt G dX10_whole_13 (fun kq2 => ?_) (fun kq2 => ?_)
    · skip
      refine wp_bipush G dX10_whole_19 (by decide) ?_
      refine wp_istore_n (lv' := [(3, zI (-6)), (0, zR 64), (1, zI a), (2, zI b)]) G dX10_whole_21 (by decide) rfl ?_
      refine wp_iconst G dX10_whole_22 ?_
      refine wp_istore (lv' := [(4, zI 0), (3, zI (-6)), (0, zR 64), (1, zI a), (2, zI b)]) G dX10_whole_23 (by decide) rfl ?_
      refine wp_iconst G dX10_whole_25 ?_
      refine wp_istore (lv' := [(5, zI 0), (4, zI 0), (3, zI (-6)), (0, zR 64), (1, zI a), (2, zI b)]) G dX10_whole_26 (by decide) rfl ?_
      refine wp_lv [3, 4, 5, 2, 1, 0] rfl ?_
      suffices lp28 : ∀ (fu : Nat) (g : Nat) (v3 : Int) (v4 : Int) (v5 : Int), 91 - g < fu → (v3 = (cmb (cgc q a b n) g).1) → (v4 = (cmb (cgc q a b n) g).2) → (v5 = ((g : Nat) : Int)) → (g ≤ 91) → Wp K 7 (Mx K h (Rt (zI (ansW n q a b)) nx []) (0, 0)) (0, 0) 28 [(0, zR 64), (1, zI a), (2, zI b), (3, zI v3), (4, zI v4), (5, zI v5)] [] (nx, h, []) from lp28 _ 0 (-6) 0 0 (Nat.lt_succ_self _) (by rfl) (by rfl) (by omega) (by omega)
      intro fu
      induction fu with
      | zero => intro g v3 v4 v5 hm; exact absurd hm (Nat.not_lt_zero _)
      | succ fu ih28 =>
        intro g v3 v4 v5 hm28 e3 e4 e5 hi0
        subst e3
        subst e4
        subst e5
        have hcb := cmb_b (c := (cgc q a b n)) (cgc_b q a b hn40) g
        have hcg := cgc_b q a b hn40 g
        have hcd := cg_diff q a b g n
        refine wp_iload G 5 dX10_whole_28 rfl ?_
        refine wp_bipush G dX10_whole_30 (by decide) ?_
        refine wp_icmp_gt G dX10_whole_32 (by omega) (by omega) (fun kq3 => ?_) (fun kq3 => ?_)
        · skip
          refine wp_iload_n G 3 dX10_whole_76 rfl ?_
          exact wp_ireturn G hr dX10_whole_77 ⟨by rw [show g = 91 by omega, ansW_3 (by omega) (by omega)], rfl, by rfl⟩
        · skip
          refine wp_aload_n G 0 dX10_whole_35 rfl ?_
          refine wp_iload_n G 1 dX10_whole_36 rfl ?_
          refine wp_iload_n G 2 dX10_whole_37 rfl ?_
          refine wp_iload G 5 dX10_whole_38 rfl ?_
          refine wp_cVE (b := 64) (ci := 9) (as := [zI a, zI b, zI ((g : Nat) : Int)]) (rest := []) (hp2 := (nx, h, [])) G mX10_countOf lX10_176 iX10_countOf eX10_countOf ⟨_, rfl, rfl⟩ dX10_whole_40 h64 rfl rfl (Nat.le_of_ble_eq_true rfl) (rmx_ok hR (by decide) (by decide) (by decide) (by decide)) (t_X10_countOf (nx := nx) (a := a) (b := b) (m := ((g : Nat) : Int)) hQ hO hN (by omega) ri_b (by omega)) rfl ?_
          refine wp_aload_n G 0 dX10_whole_43 rfl ?_
          refine wp_iload_n G 1 dX10_whole_44 rfl ?_
          refine wp_iload_n G 2 dX10_whole_45 rfl ?_
          refine wp_iload G 5 dX10_whole_46 rfl ?_
          refine wp_iconst G dX10_whole_48 ?_
          refine wp_iadd G dX10_whole_49 ?_
          refine wp_cVE (b := 64) (ci := 9) (as := [zI a, zI b, zI (((g : Nat) : Int) + 1)]) (rest := [zI (cntZ (fun j => cnd q a b j ∧ ((g : Nat) : Int) ≤ q 4 j) n)]) (hp2 := (nx, h, [])) G mX10_countOf lX10_176 iX10_countOf eX10_countOf ⟨_, rfl, rfl⟩ dX10_whole_50 h64 rfl rfl (Nat.le_of_ble_eq_true rfl) (rmx_ok hR (by decide) (by decide) (by decide) (by decide)) (t_X10_countOf (nx := nx) (a := a) (b := b) (m := (((g : Nat) : Int) + 1)) hQ hO hN (by omega) ri_b (by omega)) rfl ?_
          refine wp_isub G dX10_whole_53 ?_
          rw [show ((cntZ (fun j => cnd q a b j ∧ ((g : Nat) : Int) ≤ q 4 j) n - cntZ (fun j => cnd q a b j ∧ (((g : Nat) : Int) + 1) ≤ q 4 j) n) : Int) = cgc q a b n g by exact hcd]
          refine wp_istore (lv' := [(6, zI (cgc q a b n g)), (0, zR 64), (1, zI a), (2, zI b), (3, zI ((cmb (cgc q a b n) g).1)), (4, zI ((cmb (cgc q a b n) g).2)), (5, zI ((g : Nat) : Int))]) G dX10_whole_54 (by decide) rfl ?_
          refine wp_iload G 0 dX10_whole_56 rfl ?_
          refine wp_iload G 5 dX10_whole_58 rfl ?_
          refine wp_icmp_le G dX10_whole_60 (by omega) (by omega) (fun kq4 => ?_) (fun kq4 => ?_)
          · skip
            refine wp_iinc (lv' := [(5, zI (((g : Nat) : Int) + 1)), (6, zI (cgc q a b n g)), (0, zR 64), (1, zI a), (2, zI b), (3, zI ((cmb (cgc q a b n) g).1)), (4, zI ((cmb (cgc q a b n) g).2))]) G 6 dX10_whole_70 rfl (by decide) rfl ?_
            refine wp_goto G dX10_whole_73 ?_
            refine wp_lv [2, 3, 4, 5, 6, 0] rfl ?_
            exact ih28 (g + 1) ((cmb (cgc q a b n) g).1) ((cmb (cgc q a b n) g).2) (((g : Nat) : Int) + 1) (by omega) (by first | (rw [cmb_y (by omega)]; done) | (rw [cmb_n (by omega)])) (by first | (rw [cmb_y (by omega)]; done) | (rw [cmb_n (by omega)])) (by omega) (by omega)
          · skip
            refine wp_iload G 0 dX10_whole_63 rfl ?_
            refine wp_istore (lv' := [(4, zI (cgc q a b n g)), (6, zI (cgc q a b n g)), (0, zR 64), (1, zI a), (2, zI b), (3, zI ((cmb (cgc q a b n) g).1)), (5, zI ((g : Nat) : Int))]) G dX10_whole_65 (by decide) rfl ?_
            refine wp_iload G 6 dX10_whole_67 rfl ?_
            refine wp_istore_n (lv' := [(3, zI ((g : Nat) : Int)), (4, zI (cgc q a b n g)), (6, zI (cgc q a b n g)), (0, zR 64), (1, zI a), (2, zI b), (5, zI ((g : Nat) : Int))]) G dX10_whole_69 (by decide) rfl ?_
            refine wp_iinc (lv' := [(5, zI (((g : Nat) : Int) + 1)), (3, zI ((g : Nat) : Int)), (4, zI (cgc q a b n g)), (6, zI (cgc q a b n g)), (0, zR 64), (1, zI a), (2, zI b)]) G 6 dX10_whole_70 rfl (by decide) rfl ?_
            refine wp_goto G dX10_whole_73 ?_
            refine wp_lv [4, 5, 6, 1, 2, 0] rfl ?_
            exact ih28 (g + 1) ((g : Nat) : Int) (cgc q a b n g) (((g : Nat) : Int) + 1) (by omega) (by first | (rw [cmb_y (by omega)]; done) | (rw [cmb_n (by omega)])) (by first | (rw [cmb_y (by omega)]; done) | (rw [cmb_n (by omega)])) (by omega) (by omega)
    · skip
      refine wp_bipush G dX10_whole_16 (by decide) ?_
      exact wp_ireturn G hr dX10_whole_18 ⟨by rw [ansW_2 (by omega) (by omega)], rfl, by rfl⟩
  · skip
    refine wp_iconst G dX10_whole_7 ?_
    exact wp_ireturn G hr dX10_whole_8 ⟨by rw [ansW_1 (by omega)], rfl, by rfl⟩

