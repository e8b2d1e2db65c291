theorem tm4 (a : Nat) : Int.tmod (((a : Nat) : Int) + 1) 4 = (((a + 1) % 4 : Nat) : Int) := by
  rw [Int.tmod_eq_emod_of_nonneg (by omega)]
  omega

set_option maxRecDepth 100000 in
set_option maxHeartbeats 4000000 in
theorem t_X8_isFull {nx : Nat} {h : Nat → Option PC} {sc : Nat} {sg : Nat → Int} (h42 : h 42 = some (oO 7 [zI ((sc : Nat) : Int), zR 43])) (h43 : h 43 = some (oA 0 48 sg)) (hsc : sc ≤ 48) (hsg : ∀ i, i < sc → 33 ≤ sg i ∧ sg i ≤ 126) : Cx 0 (0, 0) yX8_isFull cX8_isFull 1 (some .boolean) [zR 42] nx h (Rt (zI (bt (48 ≤ sc))) nx []) := by
  refine cx_of pnX8_isFull (Nat.le_of_ble_eq_true rfl) ?_
  intro K G hr hnm hR
  show Wp K 1 (Mx K h (Rt (zI (bt (48 ≤ sc))) nx []) (0, 0)) (0, 0) 0 [(0, zR 42)] [] (nx, h, [])
  refine wp_aload_n G 0 dX8_isFull_0 rfl ?_
  refine wp_get G 0 cOk7 fX8_9 dX8_isFull_1 h42 rfl ?_
  refine wp_bipush G dX8_isFull_4 (by decide) ?_
  refine wp_icmp_lt G dX8_isFull_6 (by omega) (by omega) (fun kq1 => ?_) (fun kq1 => ?_)
  · skip
    refine wp_iconst G dX8_isFull_13 ?_
    exact wp_zreturn G (by omega) hr dX8_isFull_14 ⟨by first | rw [bt_1 (by omega)] | rw [bt_0 (by omega)], rfl, by rfl⟩
  · skip
    refine wp_iconst G dX8_isFull_9 ?_
    refine wp_goto G dX8_isFull_10 ?_
    exact wp_zreturn G (by omega) hr dX8_isFull_14 ⟨by first | rw [bt_1 (by omega)] | rw [bt_0 (by omega)], rfl, by rfl⟩

set_option maxRecDepth 100000 in
set_option maxHeartbeats 4000000 in
theorem t_X8_add {nx : Nat} {h : Nat → Option PC} {sc : Nat} {sg : Nat → Int} {c : Int} (h42 : h 42 = some (oO 7 [zI ((sc : Nat) : Int), zR 43])) (h43 : h 43 = some (oA 0 48 sg)) (hsc : sc ≤ 48) (hsg : ∀ i, i < sc → 33 ≤ sg i ∧ sg i ≤ 126) (hs : sc < 48) : Cx 0 (0, 0) yX8_add cX8_add 2 (some .int) [zR 42, zI c] nx h (Rt (zI (((sc : Nat) : Int) + 1)) nx [(43, oA 0 48 (fup sg sc c)), (42, oO 7 [zI (((sc : Nat) : Int) + 1), zR 43])]) := by
  refine cx_of pnX8_add (Nat.le_of_ble_eq_true rfl) ?_
  intro K G hr hnm hR
  show Wp K 2 (Mx K h (Rt (zI (((sc : Nat) : Int) + 1)) nx [(43, oA 0 48 (fup sg sc c)), (42, oO 7 [zI (((sc : Nat) : Int) + 1), zR 43])]) (0, 0)) (0, 0) 0 [(0, zR 42), (1, zI c)] [] (nx, h, [])
  refine wp_aload_n G 0 dX8_add_0 rfl ?_
  refine wp_get G 1 cOk7 fX8_15 dX8_add_1 h42 rfl ?_
  refine wp_aload_n G 0 dX8_add_4 rfl ?_
  refine wp_get G 0 cOk7 fX8_9 dX8_add_5 h42 rfl ?_
  refine wp_iload_n G 1 dX8_add_8 rfl ?_
  refine wp_iastE (j := sc) (hp2 := (nx, h, [(43, oA 0 48 (fup sg sc c))])) G dX8_add_9 h43 rfl (by omega) (by decide) rfl ?_
  refine wp_aload_n G 0 dX8_add_10 rfl ?_
  refine wp_dup G rfl dX8_add_11 ?_
  refine wp_get G 0 cOk7 fX8_9 dX8_add_12 h42 rfl ?_
  refine wp_iconst G dX8_add_15 ?_
  refine wp_iadd G dX8_add_16 ?_
  refine wp_putE (hp2 := (nx, h, [(43, oA 0 48 (fup sg sc c)), (42, oO 7 [zI (((sc : Nat) : Int) + 1), zR 43])])) G 0 cOk7 fX8_9 dX8_add_17 h42 (Nat.le_of_ble_eq_true rfl) (fit_int _) (fun _ e => by cases e; rfl) rfl ?_
  refine wp_aload_n G 0 dX8_add_20 rfl ?_
  refine wp_get G 0 cOk7 fX8_9 dX8_add_21 rfl rfl ?_
  exact wp_ireturn G hr dX8_add_24 ⟨by rfl, rfl, by rfl⟩

set_option maxRecDepth 100000 in
set_option maxHeartbeats 4000000 in
theorem t_X8_isDigit {nx : Nat} {h : Nat → Option PC} {v : Int} (ri_v : r32 v) : Cx 0 (0, 0) yX8_isDigit cX8_isDigit 1 (some .boolean) [zI v] nx h (Rt (zI (bt (48 ≤ v ∧ v ≤ 57))) nx []) := by
  refine cx_of pnX8_isDigit (Nat.le_of_ble_eq_true rfl) ?_
  intro K G hr hnm hR
  show Wp K 1 (Mx K h (Rt (zI (bt (48 ≤ v ∧ v ≤ 57))) nx []) (0, 0)) (0, 0) 0 [(0, zI v)] [] (nx, h, [])
  refine wp_iload_n G 0 dX8_isDigit_0 rfl ?_
  refine wp_bipush G dX8_isDigit_1 (by decide) ?_
  refine wp_icmp_lt G dX8_isDigit_3 (by omega) (by omega) (fun kq1 => ?_) (fun kq1 => ?_)
  · skip
    refine wp_iconst G dX8_isDigit_16 ?_
    exact wp_zreturn G (by omega) hr dX8_isDigit_17 ⟨by first | rw [bt_1 (by omega)] | rw [bt_0 (by omega)], rfl, by rfl⟩
  · skip
    refine wp_iload_n G 0 dX8_isDigit_6 rfl ?_
    refine wp_bipush G dX8_isDigit_7 (by decide) ?_
    refine wp_icmp_gt G dX8_isDigit_9 (by omega) (by omega) (fun kq2 => ?_) (fun kq2 => ?_)
    · skip
      refine wp_iconst G dX8_isDigit_16 ?_
      exact wp_zreturn G (by omega) hr dX8_isDigit_17 ⟨by first | rw [bt_1 (by omega)] | rw [bt_0 (by omega)], rfl, by rfl⟩
    · skip
      refine wp_iconst G dX8_isDigit_12 ?_
      refine wp_goto G dX8_isDigit_13 ?_
      exact wp_zreturn G (by omega) hr dX8_isDigit_17 ⟨by first | rw [bt_1 (by omega)] | rw [bt_0 (by omega)], rfl, by rfl⟩

set_option maxRecDepth 100000 in
set_option maxHeartbeats 4000000 in
theorem t_X8_faultyPlace {nx : Nat} {h : Nat → Option PC} {sc : Nat} {sg : Nat → Int} (h42 : h 42 = some (oO 7 [zI ((sc : Nat) : Int), zR 43])) (h43 : h 43 = some (oA 0 48 sg)) (hsc : sc ≤ 48) (hsg : ∀ i, i < sc → 33 ≤ sg i ∧ sg i ≤ 126) : Cx 1 (0, 0) yX8_faultyPlace cX8_faultyPlace 6 (some .int) [zR 42] nx h (Rt (zI (fltZ sg sc)) nx []) := by
  refine cx_of pnX8_faultyPlace (Nat.le_of_ble_eq_true rfl) ?_
  intro K G hr hnm hR
  show Wp K 6 (Mx K h (Rt (zI (fltZ sg sc)) nx []) (0, 0)) (0, 0) 0 [(0, zR 42)] [] (nx, h, [])
  refine wp_iconst G dX8_faultyPlace_0 ?_
  refine wp_istore_n (lv' := [(1, zI 0), (0, zR 42)]) G dX8_faultyPlace_1 (by decide) rfl ?_
  refine wp_iconst G dX8_faultyPlace_2 ?_
  refine wp_istore_n (lv' := [(2, zI 0), (1, zI 0), (0, zR 42)]) G dX8_faultyPlace_3 (by decide) rfl ?_
  refine wp_iconst G dX8_faultyPlace_4 ?_
  refine wp_istore_n (lv' := [(3, zI 0), (2, zI 0), (1, zI 0), (0, zR 42)]) G dX8_faultyPlace_5 (by decide) rfl ?_
  refine wp_lv [3, 2, 1, 0] rfl ?_
  suffices lp6 : ∀ (fu : Nat) (k : Nat) (v1 : Int) (v2 : Int) (v3 : Int), sc - k < fu → (v1 = (((fS sg k).1 : Nat) : Int)) → (v2 = (((fS sg k).2 : Nat) : Int)) → (v3 = ((k : Nat) : Int)) → (k ≤ sc) → (∀ r, r < k → ¬ sBad sg r) → Wp K 6 (Mx K h (Rt (zI (fltZ sg sc)) nx []) (0, 0)) (0, 0) 6 [(0, zR 42), (1, zI v1), (2, zI v2), (3, zI v3)] [] (nx, h, []) from lp6 _ 0 0 0 0 (Nat.lt_succ_self _) (by rfl) (by rfl) (by omega) (by omega) (by intro r hr; omega)
  intro fu
  induction fu with
  | zero => intro k v1 v2 v3 hm; exact absurd hm (Nat.not_lt_zero _)
  | succ fu ih6 =>
    intro k v1 v2 v3 hm6 e1 e2 e3 hi0 hno
    subst e1
    subst e2
    subst e3
    have hf1 := fS_1 sg k
    have hf2 := fS_2 sg k hno
    refine wp_iload_n G 3 dX8_faultyPlace_6 rfl ?_
    refine wp_aload_n G 0 dX8_faultyPlace_7 rfl ?_
    refine wp_get G 0 cOk7 fX8_9 dX8_faultyPlace_8 h42 rfl ?_
    refine wp_icmp_ge G dX8_faultyPlace_11 (by omega) (by omega) (fun kq1 => ?_) (fun kq1 => ?_)
    · skip
      refine wp_iload_n G 1 dX8_faultyPlace_109 rfl ?_
      refine wp_if_ne G dX8_faultyPlace_110 (by omega) (fun kq2 => ?_) (fun kq2 => ?_)
      · skip
        refine wp_aload_n G 0 dX8_faultyPlace_122 rfl ?_
        refine wp_get G 0 cOk7 fX8_9 dX8_faultyPlace_123 h42 rfl ?_
        exact wp_ireturn G hr dX8_faultyPlace_126 ⟨by have ek : k = sc := (by omega); subst ek; rw [flt_end hno]; first | rw [ifZ_y (by omega)] | rw [ifZ_n (by omega)], rfl, by rfl⟩
      · skip
        refine wp_iload_n G 2 dX8_faultyPlace_113 rfl ?_
        refine wp_if_le G dX8_faultyPlace_114 (by omega) (fun kq3 => ?_) (fun kq3 => ?_)
        · skip
          refine wp_aload_n G 0 dX8_faultyPlace_122 rfl ?_
          refine wp_get G 0 cOk7 fX8_9 dX8_faultyPlace_123 h42 rfl ?_
          exact wp_ireturn G hr dX8_faultyPlace_126 ⟨by have ek : k = sc := (by omega); subst ek; rw [flt_end hno]; first | rw [ifZ_y (by omega)] | rw [ifZ_n (by omega)], rfl, by rfl⟩
        · skip
          refine wp_bipush G dX8_faultyPlace_117 (by decide) ?_
          refine wp_goto G dX8_faultyPlace_119 ?_
          exact wp_ireturn G hr dX8_faultyPlace_126 ⟨by have ek : k = sc := (by omega); subst ek; rw [flt_end hno]; first | rw [ifZ_y (by omega)] | rw [ifZ_n (by omega)], rfl, by rfl⟩
    · skip
      refine wp_aload_n G 0 dX8_faultyPlace_14 rfl ?_
      refine wp_get G 1 cOk7 fX8_15 dX8_faultyPlace_15 h42 rfl ?_
      refine wp_iload_n G 3 dX8_faultyPlace_18 rfl ?_
      refine wp_iald (j := k) G dX8_faultyPlace_19 h43 rfl (by omega) (by decide) ?_
      have rrq1 := hsg k (by omega)
      refine wp_cSE (as := [zI (sg k)]) (rest := []) (hp2 := (nx, h, [])) G mX8_isDigit lX8_19 sX8_isDigit dX8_faultyPlace_20 rfl rfl (Nat.le_of_ble_eq_true rfl) (rmx_ok hR (by decide) (by decide) (by decide) (by decide)) (t_X8_isDigit (nx := nx) (v := (sg k)) (by omega)) rfl ?_
      refine wp_ifeq_bt G dX8_faultyPlace_23 (fun kq4 => ?_) (fun kq4 => ?_)
      · skip
        refine wp_iconst G dX8_faultyPlace_35 ?_
        refine wp_istore (lv' := [(4, zI 0), (0, zR 42), (1, zI (((fS sg k).1 : Nat) : Int)), (2, zI (((fS sg k).2 : Nat) : Int)), (3, zI ((k : Nat) : Int))]) G dX8_faultyPlace_36 (by decide) rfl ?_
        refine wp_iload_n G 3 dX8_faultyPlace_38 rfl ?_
        refine wp_if_le G dX8_faultyPlace_39 (by omega) (fun kq5 => ?_) (fun kq5 => ?_)
        · skip
          refine wp_iconst G dX8_faultyPlace_60 ?_
          refine wp_istore (lv' := [(5, zI 0), (4, zI 0), (0, zR 42), (1, zI (((fS sg k).1 : Nat) : Int)), (2, zI (((fS sg k).2 : Nat) : Int)), (3, zI ((k : Nat) : Int))]) G dX8_faultyPlace_61 (by decide) rfl ?_
          refine wp_iload G 1 dX8_faultyPlace_63 rfl ?_
          refine wp_if_ne G dX8_faultyPlace_65 (by omega) (fun z => by exfalso; omega) (fun _ => ?_)
          refine wp_iload G 0 dX8_faultyPlace_68 rfl ?_
          refine wp_if_ne G dX8_faultyPlace_70 (by omega) (fun z => by exfalso; omega) (fun _ => ?_)
          refine wp_iload_n G 5 dX8_faultyPlace_73 rfl ?_
          exact wp_ireturn G hr dX8_faultyPlace_74 ⟨by rw [flt_at (by omega) hno (by unfold sBad sGo sEnd; omega)], rfl, by rfl⟩
        · skip
          refine wp_aload_n G 1 dX8_faultyPlace_42 rfl ?_
          refine wp_get G 1 cOk7 fX8_15 dX8_faultyPlace_43 h42 rfl ?_
          refine wp_iload_n G 4 dX8_faultyPlace_46 rfl ?_
          refine wp_iald (j := k) G dX8_faultyPlace_47 h43 rfl (by omega) (by decide) ?_
          have rrq2 := hsg k (by omega)
          refine wp_stabE (j := (fS sg k).1) (jl := 2) (v := mrk ((fS sg k).1)) G 2 (by decide) rfl (wt_at 715 (by decide +kernel) (by decide +kernel)) dX8_faultyPlace_48 dX8_faultyPlace_51 dX8_faultyPlace_52 rfl rfl (by show _ < 4; omega) ?_
          have hmk2 := mrk_c (fS sg k).1
          refine wp_icmp_ne G dX8_faultyPlace_53 (by omega) (by omega) (fun kq8 => ?_) (fun kq8 => ?_)
          · skip
            refine wp_iconst G dX8_faultyPlace_60 ?_
            refine wp_istore (lv' := [(5, zI 0), (4, zI 0), (0, zR 42), (1, zI (((fS sg k).1 : Nat) : Int)), (2, zI (((fS sg k).2 : Nat) : Int)), (3, zI ((k : Nat) : Int))]) G dX8_faultyPlace_61 (by decide) rfl ?_
            refine wp_iload G 1 dX8_faultyPlace_63 rfl ?_
            refine wp_if_ne G dX8_faultyPlace_65 (by omega) (fun z => by exfalso; omega) (fun _ => ?_)
            refine wp_iload G 0 dX8_faultyPlace_68 rfl ?_
            refine wp_if_ne G dX8_faultyPlace_70 (by omega) (fun z => by exfalso; omega) (fun _ => ?_)
            refine wp_iload_n G 5 dX8_faultyPlace_73 rfl ?_
            exact wp_ireturn G hr dX8_faultyPlace_74 ⟨by rw [flt_at (by omega) hno (by unfold sBad sGo sEnd; omega)], rfl, by rfl⟩
          · skip
            refine wp_iconst G dX8_faultyPlace_56 ?_
            refine wp_goto G dX8_faultyPlace_57 ?_
            refine wp_istore (lv' := [(5, zI 1), (4, zI 0), (0, zR 42), (1, zI (((fS sg k).1 : Nat) : Int)), (2, zI (((fS sg k).2 : Nat) : Int)), (3, zI ((k : Nat) : Int))]) G dX8_faultyPlace_61 (by decide) rfl ?_
            refine wp_iload G 1 dX8_faultyPlace_63 rfl ?_
            refine wp_if_ne G dX8_faultyPlace_65 (by omega) (fun z => by exfalso; omega) (fun _ => ?_)
            refine wp_iload G 0 dX8_faultyPlace_68 rfl ?_
            refine wp_if_ne G dX8_faultyPlace_70 (by omega) (fun _ => ?_) (fun z => by exfalso; omega)
            refine wp_iload G 0 dX8_faultyPlace_75 rfl ?_
            refine wp_if_eq G dX8_faultyPlace_77 (by omega) (fun z => by exfalso; omega) (fun _ => ?_)
            refine wp_iconst G dX8_faultyPlace_80 ?_
            refine wp_goto G dX8_faultyPlace_81 ?_
            refine wp_istore_n (lv' := [(2, zI 0), (5, zI 1), (4, zI 0), (0, zR 42), (1, zI (((fS sg k).1 : Nat) : Int)), (3, zI ((k : Nat) : Int))]) G dX8_faultyPlace_87 (by decide) rfl ?_
            refine wp_iload G 1 dX8_faultyPlace_88 rfl ?_
            refine wp_if_eq G dX8_faultyPlace_90 (by omega) (fun z => by exfalso; omega) (fun _ => ?_)
            refine wp_iload_n G 4 dX8_faultyPlace_93 rfl ?_
            refine wp_iconst G dX8_faultyPlace_94 ?_
            refine wp_iadd G dX8_faultyPlace_95 ?_
            refine wp_iconst G dX8_faultyPlace_96 ?_
            refine wp_irem G (by omega) (by omega) (by omega) dX8_faultyPlace_97 ?_
            refine wp_goto G dX8_faultyPlace_98 ?_
            refine wp_istore_n (lv' := [(1, zI (Int.tmod ((((fS sg k).1 : Nat) : Int) + 1) 4)), (2, zI 0), (5, zI 1), (4, zI 0), (0, zR 42), (3, zI ((k : Nat) : Int))]) G dX8_faultyPlace_102 (by decide) rfl ?_
            refine wp_iinc (lv' := [(3, zI (((k : Nat) : Int) + 1)), (1, zI (Int.tmod ((((fS sg k).1 : Nat) : Int) + 1) 4)), (2, zI 0), (5, zI 1), (4, zI 0), (0, zR 42)]) G 5 dX8_faultyPlace_103 rfl (by decide) rfl ?_
            refine wp_goto G dX8_faultyPlace_106 ?_
            refine wp_lv [5, 1, 2, 0] rfl ?_
            exact ih6 (k + 1) (Int.tmod ((((fS sg k).1 : Nat) : Int) + 1) 4) 0 (((k : Nat) : Int) + 1) (by omega) (by first | (rw [fS_y (by unfold sEnd; omega)]; exact tm4 _) | (rw [fS_n (by unfold sEnd; omega)])) (by first | (rw [fS_y (by unfold sEnd; omega)]; rfl) | (rw [fS_n (by unfold sEnd; omega)]; rfl)) (by omega) (by omega) (by intro r hr; rcases Nat.lt_succ_iff_lt_or_eq.mp hr with e | e; exact hno r e; subst e; intro z; have z1 := z.1; have z2 := z.2; unfold sGo at z1; unfold sEnd at z2; omega)
      · skip
        refine wp_iload_n G 2 dX8_faultyPlace_26 rfl ?_
        refine wp_iconst G dX8_faultyPlace_27 ?_
        refine wp_icmp_ge G dX8_faultyPlace_28 (by omega) (by omega) (fun kq15 => ?_) (fun kq15 => ?_)
        · skip
          refine wp_iconst G dX8_faultyPlace_35 ?_
          refine wp_istore (lv' := [(4, zI 0), (0, zR 42), (1, zI (((fS sg k).1 : Nat) : Int)), (2, zI (((fS sg k).2 : Nat) : Int)), (3, zI ((k : Nat) : Int))]) G dX8_faultyPlace_36 (by decide) rfl ?_
          refine wp_iload_n G 3 dX8_faultyPlace_38 rfl ?_
          refine wp_if_le G dX8_faultyPlace_39 (by omega) (fun kq16 => ?_) (fun kq16 => ?_)
          · skip
            refine wp_iconst G dX8_faultyPlace_60 ?_
            refine wp_istore (lv' := [(5, zI 0), (4, zI 0), (0, zR 42), (1, zI (((fS sg k).1 : Nat) : Int)), (2, zI (((fS sg k).2 : Nat) : Int)), (3, zI ((k : Nat) : Int))]) G dX8_faultyPlace_61 (by decide) rfl ?_
            refine wp_iload G 1 dX8_faultyPlace_63 rfl ?_
            refine wp_if_ne G dX8_faultyPlace_65 (by omega) (fun z => by exfalso; omega) (fun _ => ?_)
            refine wp_iload G 0 dX8_faultyPlace_68 rfl ?_
            refine wp_if_ne G dX8_faultyPlace_70 (by omega) (fun z => by exfalso; omega) (fun _ => ?_)
            refine wp_iload_n G 5 dX8_faultyPlace_73 rfl ?_
            exact wp_ireturn G hr dX8_faultyPlace_74 ⟨by rw [flt_at (by omega) hno (by unfold sBad sGo sEnd; omega)], rfl, by rfl⟩
          · skip
            refine wp_aload_n G 1 dX8_faultyPlace_42 rfl ?_
            refine wp_get G 1 cOk7 fX8_15 dX8_faultyPlace_43 h42 rfl ?_
            refine wp_iload_n G 4 dX8_faultyPlace_46 rfl ?_
            refine wp_iald (j := k) G dX8_faultyPlace_47 h43 rfl (by omega) (by decide) ?_
            have rrq3 := hsg k (by omega)
            refine wp_stabE (j := (fS sg k).1) (jl := 2) (v := mrk ((fS sg k).1)) G 2 (by decide) rfl (wt_at 715 (by decide +kernel) (by decide +kernel)) dX8_faultyPlace_48 dX8_faultyPlace_51 dX8_faultyPlace_52 rfl rfl (by show _ < 4; omega) ?_
            have hmk2 := mrk_c (fS sg k).1
            refine wp_icmp_ne G dX8_faultyPlace_53 (by omega) (by omega) (fun kq19 => ?_) (fun kq19 => ?_)
            · skip
              refine wp_iconst G dX8_faultyPlace_60 ?_
              refine wp_istore (lv' := [(5, zI 0), (4, zI 0), (0, zR 42), (1, zI (((fS sg k).1 : Nat) : Int)), (2, zI (((fS sg k).2 : Nat) : Int)), (3, zI ((k : Nat) : Int))]) G dX8_faultyPlace_61 (by decide) rfl ?_
              refine wp_iload G 1 dX8_faultyPlace_63 rfl ?_
              refine wp_if_ne G dX8_faultyPlace_65 (by omega) (fun z => by exfalso; omega) (fun _ => ?_)
              refine wp_iload G 0 dX8_faultyPlace_68 rfl ?_
              refine wp_if_ne G dX8_faultyPlace_70 (by omega) (fun z => by exfalso; omega) (fun _ => ?_)
              refine wp_iload_n G 5 dX8_faultyPlace_73 rfl ?_
              exact wp_ireturn G hr dX8_faultyPlace_74 ⟨by rw [flt_at (by omega) hno (by unfold sBad sGo sEnd; omega)], rfl, by rfl⟩
            · skip
              refine wp_iconst G dX8_faultyPlace_56 ?_
              refine wp_goto G dX8_faultyPlace_57 ?_
              refine wp_istore (lv' := [(5, zI 1), (4, zI 0), (0, zR 42), (1, zI (((fS sg k).1 : Nat) : Int)), (2, zI (((fS sg k).2 : Nat) : Int)), (3, zI ((k : Nat) : Int))]) G dX8_faultyPlace_61 (by decide) rfl ?_
              refine wp_iload G 1 dX8_faultyPlace_63 rfl ?_
              refine wp_if_ne G dX8_faultyPlace_65 (by omega) (fun z => by exfalso; omega) (fun _ => ?_)
              refine wp_iload G 0 dX8_faultyPlace_68 rfl ?_
              refine wp_if_ne G dX8_faultyPlace_70 (by omega) (fun _ => ?_) (fun z => by exfalso; omega)
              refine wp_iload G 0 dX8_faultyPlace_75 rfl ?_
              refine wp_if_eq G dX8_faultyPlace_77 (by omega) (fun z => by exfalso; omega) (fun _ => ?_)
              refine wp_iconst G dX8_faultyPlace_80 ?_
              refine wp_goto G dX8_faultyPlace_81 ?_
              refine wp_istore_n (lv' := [(2, zI 0), (5, zI 1), (4, zI 0), (0, zR 42), (1, zI (((fS sg k).1 : Nat) : Int)), (3, zI ((k : Nat) : Int))]) G dX8_faultyPlace_87 (by decide) rfl ?_
              refine wp_iload G 1 dX8_faultyPlace_88 rfl ?_
              refine wp_if_eq G dX8_faultyPlace_90 (by omega) (fun z => by exfalso; omega) (fun _ => ?_)
              refine wp_iload_n G 4 dX8_faultyPlace_93 rfl ?_
              refine wp_iconst G dX8_faultyPlace_94 ?_
              refine wp_iadd G dX8_faultyPlace_95 ?_
              refine wp_iconst G dX8_faultyPlace_96 ?_
              refine wp_irem G (by omega) (by omega) (by omega) dX8_faultyPlace_97 ?_
              refine wp_goto G dX8_faultyPlace_98 ?_
              refine wp_istore_n (lv' := [(1, zI (Int.tmod ((((fS sg k).1 : Nat) : Int) + 1) 4)), (2, zI 0), (5, zI 1), (4, zI 0), (0, zR 42), (3, zI ((k : Nat) : Int))]) G dX8_faultyPlace_102 (by decide) rfl ?_
              refine wp_iinc (lv' := [(3, zI (((k : Nat) : Int) + 1)), (1, zI (Int.tmod ((((fS sg k).1 : Nat) : Int) + 1) 4)), (2, zI 0), (5, zI 1), (4, zI 0), (0, zR 42)]) G 5 dX8_faultyPlace_103 rfl (by decide) rfl ?_
              refine wp_goto G dX8_faultyPlace_106 ?_
              refine wp_lv [5, 1, 2, 0] rfl ?_
              exact ih6 (k + 1) (Int.tmod ((((fS sg k).1 : Nat) : Int) + 1) 4) 0 (((k : Nat) : Int) + 1) (by omega) (by first | (rw [fS_y (by unfold sEnd; omega)]; exact tm4 _) | (rw [fS_n (by unfold sEnd; omega)])) (by first | (rw [fS_y (by unfold sEnd; omega)]; rfl) | (rw [fS_n (by unfold sEnd; omega)]; rfl)) (by omega) (by omega) (by intro r hr; rcases Nat.lt_succ_iff_lt_or_eq.mp hr with e | e; exact hno r e; subst e; intro z; have z1 := z.1; have z2 := z.2; unfold sGo at z1; unfold sEnd at z2; omega)
        · skip
          refine wp_iconst G dX8_faultyPlace_31 ?_
          refine wp_goto G dX8_faultyPlace_32 ?_
          refine wp_istore (lv' := [(4, zI 1), (0, zR 42), (1, zI (((fS sg k).1 : Nat) : Int)), (2, zI (((fS sg k).2 : Nat) : Int)), (3, zI ((k : Nat) : Int))]) G dX8_faultyPlace_36 (by decide) rfl ?_
          refine wp_iload_n G 3 dX8_faultyPlace_38 rfl ?_
          refine wp_if_le G dX8_faultyPlace_39 (by omega) (fun kq26 => ?_) (fun kq26 => ?_)
          · skip
            refine wp_iconst G dX8_faultyPlace_60 ?_
            refine wp_istore (lv' := [(5, zI 0), (4, zI 1), (0, zR 42), (1, zI (((fS sg k).1 : Nat) : Int)), (2, zI (((fS sg k).2 : Nat) : Int)), (3, zI ((k : Nat) : Int))]) G dX8_faultyPlace_61 (by decide) rfl ?_
            refine wp_iload G 1 dX8_faultyPlace_63 rfl ?_
            refine wp_if_ne G dX8_faultyPlace_65 (by omega) (fun _ => ?_) (fun z => by exfalso; omega)
            refine wp_iload G 0 dX8_faultyPlace_75 rfl ?_
            refine wp_if_eq G dX8_faultyPlace_77 (by omega) (fun _ => ?_) (fun z => by exfalso; omega)
            refine wp_iload_n G 4 dX8_faultyPlace_84 rfl ?_
            refine wp_iconst G dX8_faultyPlace_85 ?_
            refine wp_iadd G dX8_faultyPlace_86 ?_
            refine wp_istore_n (lv' := [(2, zI ((((fS sg k).2 : Nat) : Int) + 1)), (5, zI 0), (4, zI 1), (0, zR 42), (1, zI (((fS sg k).1 : Nat) : Int)), (3, zI ((k : Nat) : Int))]) G dX8_faultyPlace_87 (by decide) rfl ?_
            refine wp_iload G 1 dX8_faultyPlace_88 rfl ?_
            refine wp_if_eq G dX8_faultyPlace_90 (by omega) (fun _ => ?_) (fun z => by exfalso; omega)
            refine wp_iload_n G 4 dX8_faultyPlace_101 rfl ?_
            refine wp_istore_n (lv' := [(1, zI (((fS sg k).1 : Nat) : Int)), (2, zI ((((fS sg k).2 : Nat) : Int) + 1)), (5, zI 0), (4, zI 1), (0, zR 42), (3, zI ((k : Nat) : Int))]) G dX8_faultyPlace_102 (by decide) rfl ?_
            refine wp_iinc (lv' := [(3, zI (((k : Nat) : Int) + 1)), (1, zI (((fS sg k).1 : Nat) : Int)), (2, zI ((((fS sg k).2 : Nat) : Int) + 1)), (5, zI 0), (4, zI 1), (0, zR 42)]) G 5 dX8_faultyPlace_103 rfl (by decide) rfl ?_
            refine wp_goto G dX8_faultyPlace_106 ?_
            refine wp_lv [5, 1, 2, 0] rfl ?_
            exact ih6 (k + 1) (((fS sg k).1 : Nat) : Int) ((((fS sg k).2 : Nat) : Int) + 1) (((k : Nat) : Int) + 1) (by omega) (by first | (rw [fS_y (by unfold sEnd; omega)]; exact tm4 _) | (rw [fS_n (by unfold sEnd; omega)])) (by first | (rw [fS_y (by unfold sEnd; omega)]; rfl) | (rw [fS_n (by unfold sEnd; omega)]; rfl)) (by omega) (by omega) (by intro r hr; rcases Nat.lt_succ_iff_lt_or_eq.mp hr with e | e; exact hno r e; subst e; intro z; have z1 := z.1; have z2 := z.2; unfold sGo at z1; unfold sEnd at z2; omega)
          · skip
            refine wp_aload_n G 1 dX8_faultyPlace_42 rfl ?_
            refine wp_get G 1 cOk7 fX8_15 dX8_faultyPlace_43 h42 rfl ?_
            refine wp_iload_n G 4 dX8_faultyPlace_46 rfl ?_
            refine wp_iald (j := k) G dX8_faultyPlace_47 h43 rfl (by omega) (by decide) ?_
            have rrq4 := hsg k (by omega)
            refine wp_stabE (j := (fS sg k).1) (jl := 2) (v := mrk ((fS sg k).1)) G 2 (by decide) rfl (wt_at 715 (by decide +kernel) (by decide +kernel)) dX8_faultyPlace_48 dX8_faultyPlace_51 dX8_faultyPlace_52 rfl rfl (by show _ < 4; omega) ?_
            have hmk2 := mrk_c (fS sg k).1
            refine wp_icmp_ne G dX8_faultyPlace_53 (by omega) (by omega) (fun kq30 => ?_) (fun kq30 => ?_)
            · skip
              refine wp_iconst G dX8_faultyPlace_60 ?_
              refine wp_istore (lv' := [(5, zI 0), (4, zI 1), (0, zR 42), (1, zI (((fS sg k).1 : Nat) : Int)), (2, zI (((fS sg k).2 : Nat) : Int)), (3, zI ((k : Nat) : Int))]) G dX8_faultyPlace_61 (by decide) rfl ?_
              refine wp_iload G 1 dX8_faultyPlace_63 rfl ?_
              refine wp_if_ne G dX8_faultyPlace_65 (by omega) (fun _ => ?_) (fun z => by exfalso; omega)
              refine wp_iload G 0 dX8_faultyPlace_75 rfl ?_
              refine wp_if_eq G dX8_faultyPlace_77 (by omega) (fun _ => ?_) (fun z => by exfalso; omega)
              refine wp_iload_n G 4 dX8_faultyPlace_84 rfl ?_
              refine wp_iconst G dX8_faultyPlace_85 ?_
              refine wp_iadd G dX8_faultyPlace_86 ?_
              refine wp_istore_n (lv' := [(2, zI ((((fS sg k).2 : Nat) : Int) + 1)), (5, zI 0), (4, zI 1), (0, zR 42), (1, zI (((fS sg k).1 : Nat) : Int)), (3, zI ((k : Nat) : Int))]) G dX8_faultyPlace_87 (by decide) rfl ?_
              refine wp_iload G 1 dX8_faultyPlace_88 rfl ?_
              refine wp_if_eq G dX8_faultyPlace_90 (by omega) (fun _ => ?_) (fun z => by exfalso; omega)
              refine wp_iload_n G 4 dX8_faultyPlace_101 rfl ?_
              refine wp_istore_n (lv' := [(1, zI (((fS sg k).1 : Nat) : Int)), (2, zI ((((fS sg k).2 : Nat) : Int) + 1)), (5, zI 0), (4, zI 1), (0, zR 42), (3, zI ((k : Nat) : Int))]) G dX8_faultyPlace_102 (by decide) rfl ?_
              refine wp_iinc (lv' := [(3, zI (((k : Nat) : Int) + 1)), (1, zI (((fS sg k).1 : Nat) : Int)), (2, zI ((((fS sg k).2 : Nat) : Int) + 1)), (5, zI 0), (4, zI 1), (0, zR 42)]) G 5 dX8_faultyPlace_103 rfl (by decide) rfl ?_
              refine wp_goto G dX8_faultyPlace_106 ?_
              refine wp_lv [5, 1, 2, 0] rfl ?_
              exact ih6 (k + 1) (((fS sg k).1 : Nat) : Int) ((((fS sg k).2 : Nat) : Int) + 1) (((k : Nat) : Int) + 1) (by omega) (by first | (rw [fS_y (by unfold sEnd; omega)]; exact tm4 _) | (rw [fS_n (by unfold sEnd; omega)])) (by first | (rw [fS_y (by unfold sEnd; omega)]; rfl) | (rw [fS_n (by unfold sEnd; omega)]; rfl)) (by omega) (by omega) (by intro r hr; rcases Nat.lt_succ_iff_lt_or_eq.mp hr with e | e; exact hno r e; subst e; intro z; have z1 := z.1; have z2 := z.2; unfold sGo at z1; unfold sEnd at z2; omega)
            · skip
              refine wp_iconst G dX8_faultyPlace_56 ?_
              refine wp_goto G dX8_faultyPlace_57 ?_
              refine wp_istore (lv' := [(5, zI 1), (4, zI 1), (0, zR 42), (1, zI (((fS sg k).1 : Nat) : Int)), (2, zI (((fS sg k).2 : Nat) : Int)), (3, zI ((k : Nat) : Int))]) G dX8_faultyPlace_61 (by decide) rfl ?_
              refine wp_iload G 1 dX8_faultyPlace_63 rfl ?_
              refine wp_if_ne G dX8_faultyPlace_65 (by omega) (fun _ => ?_) (fun z => by exfalso; omega)
              refine wp_iload G 0 dX8_faultyPlace_75 rfl ?_
              refine wp_if_eq G dX8_faultyPlace_77 (by omega) (fun z => by exfalso; omega) (fun _ => ?_)
              refine wp_iconst G dX8_faultyPlace_80 ?_
              refine wp_goto G dX8_faultyPlace_81 ?_
              refine wp_istore_n (lv' := [(2, zI 0), (5, zI 1), (4, zI 1), (0, zR 42), (1, zI (((fS sg k).1 : Nat) : Int)), (3, zI ((k : Nat) : Int))]) G dX8_faultyPlace_87 (by decide) rfl ?_
              refine wp_iload G 1 dX8_faultyPlace_88 rfl ?_
              refine wp_if_eq G dX8_faultyPlace_90 (by omega) (fun z => by exfalso; omega) (fun _ => ?_)
              refine wp_iload_n G 4 dX8_faultyPlace_93 rfl ?_
              refine wp_iconst G dX8_faultyPlace_94 ?_
              refine wp_iadd G dX8_faultyPlace_95 ?_
              refine wp_iconst G dX8_faultyPlace_96 ?_
              refine wp_irem G (by omega) (by omega) (by omega) dX8_faultyPlace_97 ?_
              refine wp_goto G dX8_faultyPlace_98 ?_
              refine wp_istore_n (lv' := [(1, zI (Int.tmod ((((fS sg k).1 : Nat) : Int) + 1) 4)), (2, zI 0), (5, zI 1), (4, zI 1), (0, zR 42), (3, zI ((k : Nat) : Int))]) G dX8_faultyPlace_102 (by decide) rfl ?_
              refine wp_iinc (lv' := [(3, zI (((k : Nat) : Int) + 1)), (1, zI (Int.tmod ((((fS sg k).1 : Nat) : Int) + 1) 4)), (2, zI 0), (5, zI 1), (4, zI 1), (0, zR 42)]) G 5 dX8_faultyPlace_103 rfl (by decide) rfl ?_
              refine wp_goto G dX8_faultyPlace_106 ?_
              refine wp_lv [5, 1, 2, 0] rfl ?_
              exact ih6 (k + 1) (Int.tmod ((((fS sg k).1 : Nat) : Int) + 1) 4) 0 (((k : Nat) : Int) + 1) (by omega) (by first | (rw [fS_y (by unfold sEnd; omega)]; exact tm4 _) | (rw [fS_n (by unfold sEnd; omega)])) (by first | (rw [fS_y (by unfold sEnd; omega)]; rfl) | (rw [fS_n (by unfold sEnd; omega)]; rfl)) (by omega) (by omega) (by intro r hr; rcases Nat.lt_succ_iff_lt_or_eq.mp hr with e | e; exact hno r e; subst e; intro z; have z1 := z.1; have z2 := z.2; unfold sGo at z1; unfold sEnd at z2; omega)

set_option maxRecDepth 100000 in
set_option maxHeartbeats 4000000 in
theorem t_X1_howManyAhead {nx : Nat} {h : Nat → Option PC} {n : Nat} {q : Nat → Nat → Int} {o : Nat → Nat} {r : Nat} {ru : Nat} {la : Int} {dy : Nat → Int} {le : Nat → Int} {mo : Nat → Int} {ch : Nat → Int} {k : Nat} {d : Int} (hQ : isQ h n q o) (hO : okQ n q o) (hF : isF h r ru la dy le mo ch) (hK : okF ru la dy le mo ch) (hk : k < ru) (hd : 0 ≤ d ∧ d ≤ 3999) : Cx 1 (0, 0) yX1_howManyAhead cX1_howManyAhead 6 (some .int) [zR r, zR 2, zI ((k : Nat) : Int), zI d] nx h (Rt (zI (hma q n (dy k) (le k) d)) nx []) := by
  refine cx_of pnX1_howManyAhead (Nat.le_of_ble_eq_true rfl) ?_
  intro K G hr hnm hR
  obtain ⟨h2, h3, h4, h5, h6, h7, h8, h9, h10⟩ := id hQ
  have hn40 := hO.1
  obtain ⟨hr0, hr1, hr2, hr3, hr4⟩ := id hF
  have hru := hK.1
  have hla := hK.2.1
  show Wp K 6 (Mx K h (Rt (zI (hma q n (dy k) (le k) d)) nx []) (0, 0)) (0, 0) 0 [(0, zR r), (1, zR 2), (2, zI ((k : Nat) : Int)), (3, zI d)] [] (nx, h, [])
  refine wp_iconst G dX1_howManyAhead_0 ?_
  refine wp_istore (lv' := [(4, zI 0), (0, zR r), (1, zR 2), (2, zI ((k : Nat) : Int)), (3, zI d)]) G dX1_howManyAhead_1 (by decide) rfl ?_
  refine wp_iconst G dX1_howManyAhead_3 ?_
  refine wp_istore (lv' := [(5, zI 0), (4, zI 0), (0, zR r), (1, zR 2), (2, zI ((k : Nat) : Int)), (3, zI d)]) G dX1_howManyAhead_4 (by decide) rfl ?_
  refine wp_lv [2, 3, 4, 5, 1, 0] rfl ?_
  suffices lp6 : ∀ (fu : Nat) (i : Nat) (v4 : Int) (v5 : Int), n - i < fu → (v4 = cntZ (fun j => grt q (le k) j ∧ q 5 j < d ∧ d - (dy k) ≤ q 1 j) i) → (v5 = ((i : Nat) : Int)) → (i ≤ n) → Wp K 6 (Mx K h (Rt (zI (hma q n (dy k) (le k) d)) nx []) (0, 0)) (0, 0) 6 [(0, zR r), (1, zR 2), (2, zI ((k : Nat) : Int)), (3, zI d), (4, zI v4), (5, zI v5)] [] (nx, h, []) from lp6 _ 0 0 0 (Nat.lt_succ_self _) (by rfl) (by omega) (by omega)
  intro fu
  induction fu with
  | zero => intro i v4 v5 hm; exact absurd hm (Nat.not_lt_zero _)
  | succ fu ih6 =>
    intro i v4 v5 hm6 e4 e5 hi0
    subst e4
    subst e5
    refine wp_iload G 5 dX1_howManyAhead_6 rfl ?_
    refine wp_aload_n G 1 dX1_howManyAhead_8 rfl ?_
    refine wp_get G 0 cOk5 fX1_39 dX1_howManyAhead_9 h2 rfl ?_
    refine wp_icmp_ge G dX1_howManyAhead_12 (by omega) (by omega) (fun kq1 => ?_) (fun kq1 => ?_)
    · skip
      refine wp_iload G 4 dX1_howManyAhead_68 rfl ?_
      exact wp_ireturn G hr dX1_howManyAhead_70 ⟨by unfold hma; rw [show i = n by omega], rfl, by rfl⟩
    · skip
      refine wp_aload_n G 1 dX1_howManyAhead_15 rfl ?_
      refine wp_iload G 5 dX1_howManyAhead_16 rfl ?_
      refine wp_aload_n G 0 dX1_howManyAhead_18 rfl ?_
      refine wp_get G 3 cOk1 fX1_20 dX1_howManyAhead_19 hr0 rfl ?_
      refine wp_iload_n G 2 dX1_howManyAhead_22 rfl ?_
      refine wp_iald (j := k) G dX1_howManyAhead_23 hr2 rfl (by omega) (by decide) ?_
      have rrq1 := hK.2.2.2.1 k (by omega)
      refine wp_cVE (b := 2) (ci := 5) (as := [zI ((i : Nat) : Int), zI (le k)]) (rest := []) (hp2 := (nx, h, [])) G mX6_isGreat lX1_44 iX6_isGreat eX6_isGreat ⟨_, rfl, rfl⟩ dX1_howManyAhead_24 h2 rfl rfl (Nat.le_of_ble_eq_true rfl) (rmx_ok hR (by decide) (by decide) (by decide) (by decide)) (t_X6_isGreat (nx := nx) (j := i) (m := (le k)) hQ hO (by omega) (by omega)) rfl ?_
      refine wp_ifeq_bt G dX1_howManyAhead_27 (fun kq2 => ?_) (fun kq2 => ?_)
      · skip
        refine wp_iinc (lv' := [(5, zI (((i : Nat) : Int) + 1)), (0, zR r), (1, zR 2), (2, zI ((k : Nat) : Int)), (3, zI d), (4, zI (cntZ (fun j => grt q (le k) j ∧ q 5 j < d ∧ d - (dy k) ≤ q 1 j) i))]) G 5 dX1_howManyAhead_62 rfl (by decide) rfl ?_
        refine wp_goto G dX1_howManyAhead_65 ?_
        refine wp_lv [1, 2, 3, 4, 5, 0] rfl ?_
        exact ih6 (i + 1) (cntZ (fun j => grt q (le k) j ∧ q 5 j < d ∧ d - (dy k) ≤ q 1 j) i) (((i : Nat) : Int) + 1) (by omega) (by first | rw [cntZ_y ⟨by assumption, by omega, by omega⟩] | rw [cntZ_n (by intro z; first | exact absurd z.1 (by assumption) | (have := z.2; omega))]) (by omega) (by omega)
      · skip
        refine wp_aload_n G 1 dX1_howManyAhead_30 rfl ?_
        refine wp_get G 6 cOk5 fX1_48 dX1_howManyAhead_31 h2 rfl ?_
        refine wp_iload G 5 dX1_howManyAhead_34 rfl ?_
        refine wp_iald (j := i) G dX1_howManyAhead_36 h8 rfl (by omega) (by decide) ?_
        have rrq2 := hO.t i (by omega)
        refine wp_iload_n G 3 dX1_howManyAhead_37 rfl ?_
        refine wp_icmp_ge G dX1_howManyAhead_38 (by omega) (by omega) (fun kq3 => ?_) (fun kq3 => ?_)
        · skip
          refine wp_iinc (lv' := [(5, zI (((i : Nat) : Int) + 1)), (0, zR r), (1, zR 2), (2, zI ((k : Nat) : Int)), (3, zI d), (4, zI (cntZ (fun j => grt q (le k) j ∧ q 5 j < d ∧ d - (dy k) ≤ q 1 j) i))]) G 5 dX1_howManyAhead_62 rfl (by decide) rfl ?_
          refine wp_goto G dX1_howManyAhead_65 ?_
          refine wp_lv [1, 2, 3, 4, 5, 0] rfl ?_
          exact ih6 (i + 1) (cntZ (fun j => grt q (le k) j ∧ q 5 j < d ∧ d - (dy k) ≤ q 1 j) i) (((i : Nat) : Int) + 1) (by omega) (by first | rw [cntZ_y ⟨by assumption, by omega, by omega⟩] | rw [cntZ_n (by intro z; first | exact absurd z.1 (by assumption) | (have := z.2; omega))]) (by omega) (by omega)
        · skip
          refine wp_aload_n G 1 dX1_howManyAhead_41 rfl ?_
          refine wp_get G 2 cOk5 fX1_51 dX1_howManyAhead_42 h2 rfl ?_
          refine wp_iload G 5 dX1_howManyAhead_45 rfl ?_
          refine wp_iald (j := i) G dX1_howManyAhead_47 h4 rfl (by omega) (by decide) ?_
          have rrq3 := hO.d i (by omega)
          refine wp_iload_n G 3 dX1_howManyAhead_48 rfl ?_
          refine wp_aload_n G 0 dX1_howManyAhead_49 rfl ?_
          refine wp_get G 2 cOk1 fX1_16 dX1_howManyAhead_50 hr0 rfl ?_
          refine wp_iload_n G 2 dX1_howManyAhead_53 rfl ?_
          refine wp_iald (j := k) G dX1_howManyAhead_54 hr1 rfl (by omega) (by decide) ?_
          have rrq4 := hK.2.2.1 k (by omega)
          refine wp_isub G dX1_howManyAhead_55 ?_
          refine wp_icmp_lt G dX1_howManyAhead_56 (by omega) (by omega) (fun kq4 => ?_) (fun kq4 => ?_)
          · skip
            refine wp_iinc (lv' := [(5, zI (((i : Nat) : Int) + 1)), (0, zR r), (1, zR 2), (2, zI ((k : Nat) : Int)), (3, zI d), (4, zI (cntZ (fun j => grt q (le k) j ∧ q 5 j < d ∧ d - (dy k) ≤ q 1 j) i))]) G 5 dX1_howManyAhead_62 rfl (by decide) rfl ?_
            refine wp_goto G dX1_howManyAhead_65 ?_
            refine wp_lv [1, 2, 3, 4, 5, 0] rfl ?_
            exact ih6 (i + 1) (cntZ (fun j => grt q (le k) j ∧ q 5 j < d ∧ d - (dy k) ≤ q 1 j) i) (((i : Nat) : Int) + 1) (by omega) (by first | rw [cntZ_y ⟨by assumption, by omega, by omega⟩] | rw [cntZ_n (by intro z; first | exact absurd z.1 (by assumption) | (have := z.2; omega))]) (by omega) (by omega)
          · skip
            refine wp_iinc (lv' := [(4, zI (cntZ (fun j => grt q (le k) j ∧ q 5 j < d ∧ d - (dy k) ≤ q 1 j) i + 1)), (0, zR r), (1, zR 2), (2, zI ((k : Nat) : Int)), (3, zI d), (5, zI ((i : Nat) : Int))]) G 4 dX1_howManyAhead_59 rfl (by decide) rfl ?_
            refine wp_iinc (lv' := [(5, zI (((i : Nat) : Int) + 1)), (4, zI (cntZ (fun j => grt q (le k) j ∧ q 5 j < d ∧ d - (dy k) ≤ q 1 j) i + 1)), (0, zR r), (1, zR 2), (2, zI ((k : Nat) : Int)), (3, zI d)]) G 5 dX1_howManyAhead_62 rfl (by decide) rfl ?_
            refine wp_goto G dX1_howManyAhead_65 ?_
            refine wp_lv [2, 3, 4, 5, 1, 0] rfl ?_
            exact ih6 (i + 1) (cntZ (fun j => grt q (le k) j ∧ q 5 j < d ∧ d - (dy k) ≤ q 1 j) i + 1) (((i : Nat) : Int) + 1) (by omega) (by first | rw [cntZ_y ⟨by assumption, by omega, by omega⟩] | rw [cntZ_n (by intro z; first | exact absurd z.1 (by assumption) | (have := z.2; omega))]) (by omega) (by omega)

set_option maxRecDepth 100000 in
set_option maxHeartbeats 4000000 in
theorem t_X1_toldFor {nx : Nat} {h : Nat → Option PC} {n : Nat} {q : Nat → Nat → Int} {o : Nat → Nat} {r : Nat} {ru : Nat} {la : Int} {dy : Nat → Int} {le : Nat → Int} {mo : Nat → Int} {ch : Nat → Int} {d : Int} (hQ : isQ h n q o) (hO : okQ n q o) (hF : isF h r ru la dy le mo ch) (hK : okF ru la dy le mo ch) (hd : 0 ≤ d ∧ d ≤ 3999) : Cx 2 (0, 0) yX1_toldFor cX1_toldFor 4 (some .int) [zR r, zR 2, zI d] nx h (Rt (zI (tld q n ru la dy le mo ch d)) nx []) := by
  refine cx_of pnX1_toldFor (Nat.le_of_ble_eq_true rfl) ?_
  intro K G hr hnm hR
  obtain ⟨h2, h3, h4, h5, h6, h7, h8, h9, h10⟩ := id hQ
  have hn40 := hO.1
  obtain ⟨hr0, hr1, hr2, hr3, hr4⟩ := id hF
  have hru := hK.1
  have hla := hK.2.1
  show Wp K 4 (Mx K h (Rt (zI (tld q n ru la dy le mo ch d)) nx []) (0, 0)) (0, 0) 0 [(0, zR r), (1, zR 2), (2, zI d)] [] (nx, h, [])
  refine wp_iconst G dX1_toldFor_0 ?_
  refine wp_istore_n (lv' := [(3, zI 0), (0, zR r), (1, zR 2), (2, zI d)]) G dX1_toldFor_1 (by decide) rfl ?_
  refine wp_lv [1, 2, 3, 0] rfl ?_
  suffices lp2 : ∀ (fu : Nat) (k : Nat) (v3 : Int), ru - k < fu → (v3 = ((k : Nat) : Int)) → (k ≤ ru) → (telF (fun k => mo k < hma q n (dy k) (le k) d) ch la ru (ru - k) = tld q n ru la dy le mo ch d) → Wp K 4 (Mx K h (Rt (zI (tld q n ru la dy le mo ch d)) nx []) (0, 0)) (0, 0) 2 [(0, zR r), (1, zR 2), (2, zI d), (3, zI v3)] [] (nx, h, []) from lp2 _ 0 0 (Nat.lt_succ_self _) (by omega) (by omega) (by rfl)
  intro fu
  induction fu with
  | zero => intro k v3 hm; exact absurd hm (Nat.not_lt_zero _)
  | succ fu ih2 =>
    intro k v3 hm2 e3 hi0 ht
    subst e3
    refine wp_iload_n G 3 dX1_toldFor_2 rfl ?_
    refine wp_aload_n G 0 dX1_toldFor_3 rfl ?_
    refine wp_get G 0 cOk1 fX1_7 dX1_toldFor_4 hr0 rfl ?_
    refine wp_icmp_ge G dX1_toldFor_7 (by omega) (by omega) (fun kq1 => ?_) (fun kq1 => ?_)
    · skip
      refine wp_sipush G dX1_toldFor_45 (by decide) ?_
      refine wp_aload_n G 0 dX1_toldFor_48 rfl ?_
      refine wp_get G 1 cOk1 fX1_13 dX1_toldFor_49 hr0 rfl ?_
      refine wp_mmin G (by omega) (by omega) lX1_33 sJ9_min_7cf53 mJ9_min_7cf53.1 mJ9_min_7cf53.2.1 dX1_toldFor_52 (Nat.le_of_ble_eq_true rfl) (rmx_ok (maxL := 2) hR (by decide) (by decide) (by decide) (by decide)) ?_
      exact wp_ireturn G hr dX1_toldFor_55 ⟨by rw [← ht, show ru - k = 0 by omega]; rfl, rfl, by rfl⟩
    · skip
      refine wp_aload_n G 0 dX1_toldFor_10 rfl ?_
      refine wp_aload_n G 1 dX1_toldFor_11 rfl ?_
      refine wp_iload_n G 3 dX1_toldFor_12 rfl ?_
      refine wp_iload_n G 2 dX1_toldFor_13 rfl ?_
      refine wp_cVE (b := r) (ci := 1) (as := [zR 2, zI ((k : Nat) : Int), zI d]) (rest := []) (hp2 := (nx, h, [])) G mX1_howManyAhead lX1_29 iX1_howManyAhead eX1_howManyAhead ⟨_, rfl, rfl⟩ dX1_toldFor_14 hr0 rfl rfl (Nat.le_of_ble_eq_true rfl) (rmx_ok hR (by decide) (by decide) (by decide) (by decide)) (t_X1_howManyAhead (nx := nx) (r := r) (k := k) (d := d) (la := la) (dy := dy) (le := le) (mo := mo) (ch := ch) (ru := ru) hQ hO hF hK (by omega) hd) rfl ?_
      have hmb : 0 ≤ hma q n (dy k) (le k) d ∧ hma q n (dy k) (le k) d ≤ 40 := by have hz := cntZ_r (fun j => grt q (le k) j ∧ q 5 j < d ∧ d - (dy k) ≤ q 1 j) n; unfold hma; omega
      refine wp_aload_n G 0 dX1_toldFor_17 rfl ?_
      refine wp_get G 4 cOk1 fX1_23 dX1_toldFor_18 hr0 rfl ?_
      refine wp_iload_n G 3 dX1_toldFor_21 rfl ?_
      refine wp_iald (j := k) G dX1_toldFor_22 hr3 rfl (by omega) (by decide) ?_
      have rrq1 := hK.2.2.2.2.1 k (by omega)
      refine wp_icmp_le G dX1_toldFor_23 (by omega) (by omega) (fun kq2 => ?_) (fun kq2 => ?_)
      · skip
        refine wp_iinc (lv' := [(3, zI (((k : Nat) : Int) + 1)), (0, zR r), (1, zR 2), (2, zI d)]) G 3 dX1_toldFor_39 rfl (by decide) rfl ?_
        refine wp_goto G dX1_toldFor_42 ?_
        refine wp_lv [1, 2, 3, 0] rfl ?_
        exact ih2 (k + 1) (((k : Nat) : Int) + 1) (by omega) (by omega) (by omega) (by rw [← ht, tel_n (k := k) (R := fun k => mo k < hma q n (dy k) (le k) d) (by omega) (by show ¬ (mo k < hma q n (dy k) (le k) d); omega)])
      · skip
        refine wp_sipush G dX1_toldFor_26 (by decide) ?_
        refine wp_aload_n G 0 dX1_toldFor_29 rfl ?_
        refine wp_get G 5 cOk1 fX1_26 dX1_toldFor_30 hr0 rfl ?_
        refine wp_iload_n G 3 dX1_toldFor_33 rfl ?_
        refine wp_iald (j := k) G dX1_toldFor_34 hr4 rfl (by omega) (by decide) ?_
        have rrq2 := hK.2.2.2.2.2 k (by omega)
        refine wp_mmin G (by omega) (by omega) lX1_33 sJ9_min_7cf53 mJ9_min_7cf53.1 mJ9_min_7cf53.2.1 dX1_toldFor_35 (Nat.le_of_ble_eq_true rfl) (rmx_ok (maxL := 2) hR (by decide) (by decide) (by decide) (by decide)) ?_
        exact wp_ireturn G hr dX1_toldFor_38 ⟨by rw [← ht, tel_y (R := fun k => mo k < hma q n (dy k) (le k) d) (by omega) (by show mo k < hma q n (dy k) (le k) d; omega)], rfl, by rfl⟩

