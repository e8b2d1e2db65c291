
set_option maxRecDepth 100000 in
set_option maxHeartbeats 4000000 in
theorem t_X6_putInOrder {nx : Nat} {h : Nat → Option PC} {n : Nat} {dd : Nat → Int} {o : Nat → Nat} (g2 : h 2 = some (oO 5 [zI ((n : Nat) : Int), zR 3, zR 4, zR 5, zR 6, zR 7, zR 8, zR 9, zR 10])) (g4 : h 4 = some (oA 0 40 dd)) (g10 : h 10 = some (oA 0 40 (fun p => ((o p : Nat) : Int)))) (hn : n < 40) (ho : ∀ p, p < n → o p < n) (hd : ∀ j, j ≤ n → r32 (dd j)) : Cx 0 (0, 0) yX6_putInOrder cX6_putInOrder 3 none [zR 2, zI ((n : Nat) : Int)] nx h (Rn nx [(10, oA 0 40 (fun r => ((insO dd o (dd n) n r : Nat) : Int)))]) := by
  refine cx_of pnX6_putInOrder (Nat.le_of_ble_eq_true rfl) ?_
  intro K G hr hnm hR
  show Wp K 3 (Mx K h (Rn nx [(10, oA 0 40 (fun r => ((insO dd o (dd n) n r : Nat) : Int)))]) (0, 0)) (0, 0) 0 [(0, zR 2), (1, zI ((n : Nat) : Int))] [] (nx, h, [])
  refine wp_iload_n G 1 dX6_putInOrder_0 rfl ?_
  refine wp_istore_n (lv' := [(2, zI ((n : Nat) : Int)), (0, zR 2), (1, zI ((n : Nat) : Int))]) G dX6_putInOrder_1 (by decide) rfl ?_
  refine wp_own (r := 10) (hp2 := (nx, h, [(10, oA 0 40 (fun p => ((o p : Nat) : Int)))])) g10 rfl ?_
  refine wp_lv [1, 2, 0] rfl ?_
  suffices lp2 : ∀ (fu : Nat) (k : Nat) (v2 : Int) (A10 : Nat → Int), k < fu → (v2 = ((k : Nat) : Int)) → (A10 = fun r => ((shO o k n r : Nat) : Int)) → (k ≤ n) → (insP dd o (dd n) k = insP dd o (dd n) n) → Wp K 3 (Mx K h (Rn nx [(10, oA 0 40 (fun r => ((insO dd o (dd n) n r : Nat) : Int)))]) (0, 0)) (0, 0) 2 [(0, zR 2), (1, zI ((n : Nat) : Int)), (2, zI v2)] [] (nx, h, [(10, oA 0 40 A10)]) from lp2 _ n ((n : Nat) : Int) (fun p => ((o p : Nat) : Int)) (Nat.lt_succ_self _) (by omega) (by exact shO_top o n) (by omega) (by rfl)
  intro fu
  induction fu with
  | zero => intro k v2 A10 hm; exact absurd hm (Nat.not_lt_zero _)
  | succ fu ih2 =>
    intro k v2 A10 hm2 e2 eA10 hi0 hi
    subst e2
    subst eA10
    refine wp_iload_n G 2 dX6_putInOrder_2 rfl ?_
    refine wp_if_le G dX6_putInOrder_3 (by omega) (fun kq1 => ?_) (fun kq1 => ?_)
    · skip
      refine wp_aload_n G 0 dX6_putInOrder_48 rfl ?_
      refine wp_get G 8 cOk5 fX6_38 dX6_putInOrder_49 g2 rfl ?_
      refine wp_iload_n G 2 dX6_putInOrder_52 rfl ?_
      refine wp_iload_n G 1 dX6_putInOrder_53 rfl ?_
      refine wp_iastE (j := k) (hp2 := (nx, h, [(10, oA 0 40 (fup (fun r => ((shO o k n r : Nat) : Int)) k ((n : Nat) : Int)))])) G dX6_putInOrder_54 rfl rfl (by omega) (by decide) rfl ?_
      exact wp_vreturn G hr dX6_putInOrder_55 ⟨rfl, rfl, by rw [insO_fin hi (by first | exact Or.inl (by omega) | exact Or.inr (by rw [hs] at kq2; exact kq2))]⟩
    · skip
      refine wp_aload_n G 0 dX6_putInOrder_6 rfl ?_
      refine wp_get G 2 cOk5 fX6_19 dX6_putInOrder_7 g2 rfl ?_
      refine wp_aload_n G 0 dX6_putInOrder_10 rfl ?_
      refine wp_get G 8 cOk5 fX6_38 dX6_putInOrder_11 g2 rfl ?_
      refine wp_iload_n G 2 dX6_putInOrder_14 rfl ?_
      refine wp_iconst G dX6_putInOrder_15 ?_
      refine wp_isub G dX6_putInOrder_16 ?_
      refine wp_iald (j := k - 1) G dX6_putInOrder_17 rfl (by omega) (by omega) (by decide) ?_
      have hs := shO_at o (k := k) (n := n) (by omega)
      have ho1 := ho (k - 1) (by omega)
      refine wp_iald (j := shO o k n (k - 1)) G dX6_putInOrder_18 g4 rfl (by omega) (by decide) ?_
      refine wp_aload_n G 0 dX6_putInOrder_19 rfl ?_
      refine wp_get G 2 cOk5 fX6_19 dX6_putInOrder_20 g2 rfl ?_
      refine wp_iload_n G 1 dX6_putInOrder_23 rfl ?_
      refine wp_iald (j := n) G dX6_putInOrder_24 g4 rfl (by omega) (by decide) ?_
      have hd1 := hd (shO o k n (k - 1)) (by omega)
      have hd2 := hd n (Nat.le_refl n)
      refine wp_icmp_le G dX6_putInOrder_25 (by omega) (by omega) (fun kq2 => ?_) (fun kq2 => ?_)
      · skip
        refine wp_aload_n G 0 dX6_putInOrder_48 rfl ?_
        refine wp_get G 8 cOk5 fX6_38 dX6_putInOrder_49 g2 rfl ?_
        refine wp_iload_n G 2 dX6_putInOrder_52 rfl ?_
        refine wp_iload_n G 1 dX6_putInOrder_53 rfl ?_
        refine wp_iastE (j := k) (hp2 := (nx, h, [(10, oA 0 40 (fup (fun r => ((shO o k n r : Nat) : Int)) k ((n : Nat) : Int)))])) G dX6_putInOrder_54 rfl rfl (by omega) (by decide) rfl ?_
        exact wp_vreturn G hr dX6_putInOrder_55 ⟨rfl, rfl, by rw [insO_fin hi (by first | exact Or.inl (by omega) | exact Or.inr (by rw [hs] at kq2; exact kq2))]⟩
      · skip
        refine wp_aload_n G 0 dX6_putInOrder_28 rfl ?_
        refine wp_get G 8 cOk5 fX6_38 dX6_putInOrder_29 g2 rfl ?_
        refine wp_iload_n G 2 dX6_putInOrder_32 rfl ?_
        refine wp_aload_n G 0 dX6_putInOrder_33 rfl ?_
        refine wp_get G 8 cOk5 fX6_38 dX6_putInOrder_34 g2 rfl ?_
        refine wp_iload_n G 2 dX6_putInOrder_37 rfl ?_
        refine wp_iconst G dX6_putInOrder_38 ?_
        refine wp_isub G dX6_putInOrder_39 ?_
        refine wp_iald (j := k - 1) G dX6_putInOrder_40 rfl (by omega) (by omega) (by decide) ?_
        refine wp_iastE (j := k) (hp2 := (nx, h, [(10, oA 0 40 (fup (fun r => ((shO o k n r : Nat) : Int)) k ((shO o k n (k - 1) : Nat) : Int)))])) G dX6_putInOrder_41 rfl rfl (by omega) (by decide) rfl ?_
        refine wp_iinc (lv' := [(2, zI (((k : Nat) : Int) + (-1))), (0, zR 2), (1, zI ((n : Nat) : Int))]) G 2 dX6_putInOrder_42 rfl (by decide) rfl ?_
        refine wp_goto G dX6_putInOrder_45 ?_
        refine wp_lv [1, 2, 0] rfl ?_
        exact ih2 (k - 1) (((k : Nat) : Int) + (-1)) (fup (fun r => ((shO o k n r : Nat) : Int)) k ((shO o k n (k - 1) : Nat) : Int)) (by omega) (by omega) (by exact shO_step o (by omega) (by omega)) (by omega) (by rw [insP_step (by omega) (by rw [hs] at kq2; exact kq2)]; exact hi)

set_option maxRecDepth 100000 in
set_option maxHeartbeats 4000000 in
theorem t_X6_add {nx : Nat} {h : Nat → Option PC} {n : Nat} {q : Nat → Nat → Int} {o : Nat → Nat} {a : Int} {d : Int} {x : Int} {y : Int} {g : Int} {t : Int} (hQ : isQ h n q o) (hO : okQ n q o) (hn : n < 40) (rd : r32 d) : Cx 1 (0, 0) yX6_add cX6_add 8 (some .int) [zR 2, zI a, zI d, zI x, zI y, zI g, zI t] nx h (Rt (zI ((n : Nat) : Int)) nx [(3, oA 0 40 (fup (q 0) n a)), (4, oA 0 40 (fup (q 1) n d)), (5, oA 0 40 (fup (q 2) n x)), (6, oA 0 40 (fup (q 3) n y)), (7, oA 0 40 (fup (q 4) n g)), (8, oA 0 40 (fup (q 5) n t)), (9, oA 1 40 (fup (q 6) n 0)), (10, oA 0 40 (fun r => ((insO (fup (q 1) n d) o (fup (q 1) n d n) n r : Nat) : Int))), (2, oO 5 [zI ((((n : Nat) : Int) + 1)), zR 3, zR 4, zR 5, zR 6, zR 7, zR 8, zR 9, zR 10])]) := by
  refine cx_of pnX6_add (Nat.le_of_ble_eq_true rfl) ?_
  intro K G hr hnm hR
  obtain ⟨h2, h3, h4, h5, h6, h7, h8, h9, h10⟩ := id hQ
  have hn40 := hO.1
  show Wp K 8 (Mx K h (Rt (zI ((n : Nat) : Int)) nx [(3, oA 0 40 (fup (q 0) n a)), (4, oA 0 40 (fup (q 1) n d)), (5, oA 0 40 (fup (q 2) n x)), (6, oA 0 40 (fup (q 3) n y)), (7, oA 0 40 (fup (q 4) n g)), (8, oA 0 40 (fup (q 5) n t)), (9, oA 1 40 (fup (q 6) n 0)), (10, oA 0 40 (fun r => ((insO (fup (q 1) n d) o (fup (q 1) n d n) n r : Nat) : Int))), (2, oO 5 [zI ((((n : Nat) : Int) + 1)), zR 3, zR 4, zR 5, zR 6, zR 7, zR 8, zR 9, zR 10])]) (0, 0)) (0, 0) 0 [(0, zR 2), (1, zI a), (2, zI d), (3, zI x), (4, zI y), (5, zI g), (6, zI t)] [] (nx, h, [])
  refine wp_aload_n G 0 dX6_add_0 rfl ?_
  refine wp_get G 0 cOk5 fX6_9 dX6_add_1 h2 rfl ?_
  refine wp_istore (lv' := [(7, zI ((n : Nat) : Int)), (0, zR 2), (1, zI a), (2, zI d), (3, zI x), (4, zI y), (5, zI g), (6, zI t)]) G dX6_add_4 (by decide) rfl ?_
  refine wp_aload_n G 1 dX6_add_6 rfl ?_
  refine wp_get G 1 cOk5 fX6_15 dX6_add_7 h2 rfl ?_
  refine wp_iload G 0 dX6_add_10 rfl ?_
  refine wp_iload_n G 2 dX6_add_12 rfl ?_
  refine wp_iastE (j := n) (hp2 := (nx, h, [(3, oA 0 40 (fup (q 0) n a))])) G dX6_add_13 h3 rfl (by omega) (by decide) rfl ?_
  refine wp_aload_n G 1 dX6_add_14 rfl ?_
  refine wp_get G 2 cOk5 fX6_19 dX6_add_15 h2 rfl ?_
  refine wp_iload G 0 dX6_add_18 rfl ?_
  refine wp_iload_n G 3 dX6_add_20 rfl ?_
  refine wp_iastE (j := n) (hp2 := (nx, h, [(3, oA 0 40 (fup (q 0) n a)), (4, oA 0 40 (fup (q 1) n d))])) G dX6_add_21 h4 rfl (by omega) (by decide) rfl ?_
  refine wp_aload_n G 1 dX6_add_22 rfl ?_
  refine wp_get G 3 cOk5 fX6_22 dX6_add_23 h2 rfl ?_
  refine wp_iload G 0 dX6_add_26 rfl ?_
  refine wp_iload_n G 4 dX6_add_28 rfl ?_
  refine wp_iastE (j := n) (hp2 := (nx, h, [(3, oA 0 40 (fup (q 0) n a)), (4, oA 0 40 (fup (q 1) n d)), (5, oA 0 40 (fup (q 2) n x))])) G dX6_add_29 h5 rfl (by omega) (by decide) rfl ?_
  refine wp_aload_n G 1 dX6_add_30 rfl ?_
  refine wp_get G 4 cOk5 fX6_25 dX6_add_31 h2 rfl ?_
  refine wp_iload G 0 dX6_add_34 rfl ?_
  refine wp_iload G 5 dX6_add_36 rfl ?_
  refine wp_iastE (j := n) (hp2 := (nx, h, [(3, oA 0 40 (fup (q 0) n a)), (4, oA 0 40 (fup (q 1) n d)), (5, oA 0 40 (fup (q 2) n x)), (6, oA 0 40 (fup (q 3) n y))])) G dX6_add_38 h6 rfl (by omega) (by decide) rfl ?_
  refine wp_aload_n G 1 dX6_add_39 rfl ?_
  refine wp_get G 5 cOk5 fX6_28 dX6_add_40 h2 rfl ?_
  refine wp_iload G 0 dX6_add_43 rfl ?_
  refine wp_iload G 6 dX6_add_45 rfl ?_
  refine wp_iastE (j := n) (hp2 := (nx, h, [(3, oA 0 40 (fup (q 0) n a)), (4, oA 0 40 (fup (q 1) n d)), (5, oA 0 40 (fup (q 2) n x)), (6, oA 0 40 (fup (q 3) n y)), (7, oA 0 40 (fup (q 4) n g))])) G dX6_add_47 h7 rfl (by omega) (by decide) rfl ?_
  refine wp_aload_n G 1 dX6_add_48 rfl ?_
  refine wp_get G 6 cOk5 fX6_31 dX6_add_49 h2 rfl ?_
  refine wp_iload G 0 dX6_add_52 rfl ?_
  refine wp_iload G 7 dX6_add_54 rfl ?_
  refine wp_iastE (j := n) (hp2 := (nx, h, [(3, oA 0 40 (fup (q 0) n a)), (4, oA 0 40 (fup (q 1) n d)), (5, oA 0 40 (fup (q 2) n x)), (6, oA 0 40 (fup (q 3) n y)), (7, oA 0 40 (fup (q 4) n g)), (8, oA 0 40 (fup (q 5) n t))])) G dX6_add_56 h8 rfl (by omega) (by decide) rfl ?_
  refine wp_aload_n G 1 dX6_add_57 rfl ?_
  refine wp_get G 7 cOk5 fX6_34 dX6_add_58 h2 rfl ?_
  refine wp_iload G 0 dX6_add_61 rfl ?_
  refine wp_iconst G dX6_add_63 ?_
  refine wp_zastE (j := n) (hp2 := (nx, h, [(3, oA 0 40 (fup (q 0) n a)), (4, oA 0 40 (fup (q 1) n d)), (5, oA 0 40 (fup (q 2) n x)), (6, oA 0 40 (fup (q 3) n y)), (7, oA 0 40 (fup (q 4) n g)), (8, oA 0 40 (fup (q 5) n t)), (9, oA 1 40 (fup (q 6) n 0))])) G (by omega) dX6_add_64 h9 rfl (by omega) (by decide) rfl ?_
  refine wp_aload_n G 1 dX6_add_65 rfl ?_
  refine wp_iload G 0 dX6_add_66 rfl ?_
  refine wp_cVN (b := 2) (ci := 5) (as := [zI ((n : Nat) : Int)]) (rest := []) (hp2 := (nx, h, [(3, oA 0 40 (fup (q 0) n a)), (4, oA 0 40 (fup (q 1) n d)), (5, oA 0 40 (fup (q 2) n x)), (6, oA 0 40 (fup (q 3) n y)), (7, oA 0 40 (fup (q 4) n g)), (8, oA 0 40 (fup (q 5) n t)), (9, oA 1 40 (fup (q 6) n 0)), (10, oA 0 40 (fun r => ((insO (fup (q 1) n d) o ((fup (q 1) n d) n) n r : Nat) : Int)))])) G mX6_putInOrder lX6_41 iX6_putInOrder eX6_putInOrder ⟨_, rfl, rfl⟩ dX6_add_68 h2 rfl rfl (Nat.le_of_ble_eq_true rfl) (rmx_ok hR (by decide) (by decide) (by decide) (by decide)) (t_X6_putInOrder (nx := nx) (n := n) (dd := (fup (q 1) n d)) h2 rfl h10 hn hO.o (fup_r rd (fun j hj => by have := hO.d j hj; omega))) rfl ?_
  refine wp_aload_n G 1 dX6_add_71 rfl ?_
  refine wp_dup G rfl dX6_add_72 ?_
  refine wp_get G 0 cOk5 fX6_9 dX6_add_73 h2 rfl ?_
  refine wp_iconst G dX6_add_76 ?_
  refine wp_iadd G dX6_add_77 ?_
  refine wp_putE (hp2 := (nx, h, [(3, oA 0 40 (fup (q 0) n a)), (4, oA 0 40 (fup (q 1) n d)), (5, oA 0 40 (fup (q 2) n x)), (6, oA 0 40 (fup (q 3) n y)), (7, oA 0 40 (fup (q 4) n g)), (8, oA 0 40 (fup (q 5) n t)), (9, oA 1 40 (fup (q 6) n 0)), (10, oA 0 40 (fun r => ((insO (fup (q 1) n d) o ((fup (q 1) n d) n) n r : Nat) : Int))), (2, oO 5 [zI (((n : Nat) : Int) + 1), zR 3, zR 4, zR 5, zR 6, zR 7, zR 8, zR 9, zR 10])])) G 0 cOk5 fX6_9 dX6_add_78 h2 (Nat.le_of_ble_eq_true rfl) (fit_int _) (fun _ e => by cases e; rfl) rfl ?_
  refine wp_iload G 0 dX6_add_81 rfl ?_
  exact wp_ireturn G hr dX6_add_83 ⟨by rfl, rfl, by rfl⟩

set_option maxRecDepth 100000 in
set_option maxHeartbeats 4000000 in
theorem t_X6_placeOf {nx : Nat} {h : Nat → Option PC} {n : Nat} {q : Nat → Nat → Int} {o : Nat → Nat} {p : Nat} (hQ : isQ h n q o) (hO : okQ n q o) (hp : p < n) : Cx 0 (0, 0) yX6_placeOf cX6_placeOf 3 (some .int) [zR 2, zI ((o p : Nat) : Int)] nx h (Rt (zI ((p : Nat) : Int)) nx []) := by
  refine cx_of pnX6_placeOf (Nat.le_of_ble_eq_true rfl) ?_
  intro K G hr hnm hR
  obtain ⟨h2, h3, h4, h5, h6, h7, h8, h9, h10⟩ := id hQ
  have hn40 := hO.1
  have hop := hO.o p hp
  show Wp K 3 (Mx K h (Rt (zI ((p : Nat) : Int)) nx []) (0, 0)) (0, 0) 0 [(0, zR 2), (1, zI ((o p : Nat) : Int))] [] (nx, h, [])
  refine wp_iconst G dX6_placeOf_0 ?_
  refine wp_istore_n (lv' := [(2, zI 0), (0, zR 2), (1, zI ((o p : Nat) : Int))]) G dX6_placeOf_1 (by decide) rfl ?_
  refine wp_lv [1, 2, 0] rfl ?_
  suffices lp2 : ∀ (fu : Nat) (k : Nat) (v2 : Int), p - k < fu → (v2 = ((k : Nat) : Int)) → (k ≤ p) → Wp K 3 (Mx K h (Rt (zI ((p : Nat) : Int)) nx []) (0, 0)) (0, 0) 2 [(0, zR 2), (1, zI ((o p : Nat) : Int)), (2, zI v2)] [] (nx, h, []) from lp2 _ 0 0 (Nat.lt_succ_self _) (by omega) (by omega)
  intro fu
  induction fu with
  | zero => intro k v2 hm; exact absurd hm (Nat.not_lt_zero _)
  | succ fu ih2 =>
    intro k v2 hm2 e2 hi0
    subst e2
    refine wp_iload_n G 2 dX6_placeOf_2 rfl ?_
    refine wp_aload_n G 0 dX6_placeOf_3 rfl ?_
    refine wp_get G 0 cOk5 fX6_9 dX6_placeOf_4 h2 rfl ?_
    refine wp_icmp_ge G dX6_placeOf_7 (by omega) (by omega) (fun kq1 => ?_) (fun kq1 => ?_)
    · skip
      refine wp_iload_n G 2 dX6_placeOf_26 rfl ?_
      exact wp_ireturn G hr dX6_placeOf_27 ⟨by rw [show k = p by omega], rfl, by rfl⟩
    · skip
      refine wp_aload_n G 0 dX6_placeOf_10 rfl ?_
      refine wp_get G 8 cOk5 fX6_38 dX6_placeOf_11 h2 rfl ?_
      refine wp_iload_n G 2 dX6_placeOf_14 rfl ?_
      refine wp_iald (j := k) G dX6_placeOf_15 h10 rfl (by omega) (by decide) ?_
      have rrq1 := hO.o k (by omega)
      refine wp_iload_n G 1 dX6_placeOf_16 rfl ?_
      have hne : k < p → o k ≠ o p := fun z => ahd_ne (hO.2.2.2.1 k p z hp)
      refine wp_icmp_eq G dX6_placeOf_17 (by omega) (by omega) (fun kq2 => ?_) (fun kq2 => ?_)
      · skip
        refine wp_iload_n G 2 dX6_placeOf_26 rfl ?_
        exact wp_ireturn G hr dX6_placeOf_27 ⟨by rw [show k = p by omega], rfl, by rfl⟩
      · skip
        have hkp : k ≠ p := fun z => kq2 (by rw [z])
        refine wp_iinc (lv' := [(2, zI (((k : Nat) : Int) + 1)), (0, zR 2), (1, zI ((o p : Nat) : Int))]) G 2 dX6_placeOf_20 rfl (by decide) rfl ?_
        refine wp_goto G dX6_placeOf_23 ?_
        refine wp_lv [1, 2, 0] rfl ?_
        exact ih2 (k + 1) (((k : Nat) : Int) + 1) (by omega) (by omega) (by omega)

set_option maxRecDepth 100000 in
set_option maxHeartbeats 4000000 in
theorem t_X6_strikes {nx : Nat} {h : Nat → Option PC} {n : Nat} {q : Nat → Nat → Int} {o : Nat → Nat} {a : Int} {m : Int} (hQ : isQ h n q o) (hO : okQ n q o) (ri_a : r32 a) (ri_m : r32 m) : Cx 1 (0, 0) yX6_strikes cX6_strikes 4 (some .boolean) [zR 2, zI a, zI m] nx h (Rt (zI (bt (∃ j, j < n ∧ q 1 j = a ∧ grt q m j))) nx []) := by
  refine cx_of pnX6_strikes (Nat.le_of_ble_eq_true rfl) ?_
  intro K G hr hnm hR
  obtain ⟨h2, h3, h4, h5, h6, h7, h8, h9, h10⟩ := id hQ
  have hn40 := hO.1
  show Wp K 4 (Mx K h (Rt (zI (bt (∃ j, j < n ∧ q 1 j = a ∧ grt q m j))) nx []) (0, 0)) (0, 0) 0 [(0, zR 2), (1, zI a), (2, zI m)] [] (nx, h, [])
  refine wp_iconst G dX6_strikes_0 ?_
  refine wp_istore_n (lv' := [(3, zI 0), (0, zR 2), (1, zI a), (2, zI m)]) G dX6_strikes_1 (by decide) rfl ?_
  refine wp_lv [1, 2, 3, 0] rfl ?_
  suffices lp2 : ∀ (fu : Nat) (k : Nat) (v3 : Int), n - k < fu → (v3 = ((k : Nat) : Int)) → (k ≤ n) → (∀ j, j < k → ¬ (q 1 j = a ∧ grt q m j)) → Wp K 4 (Mx K h (Rt (zI (bt (∃ j, j < n ∧ q 1 j = a ∧ grt q m j))) nx []) (0, 0)) (0, 0) 2 [(0, zR 2), (1, zI a), (2, zI m), (3, zI v3)] [] (nx, h, []) from lp2 _ 0 0 (Nat.lt_succ_self _) (by omega) (by omega) (by intro j hj; omega)
  intro fu
  induction fu with
  | zero => intro k v3 hm; exact absurd hm (Nat.not_lt_zero _)
  | succ fu ih2 =>
    intro k v3 hm2 e3 hi0 hno
    subst e3
    refine wp_iload_n G 3 dX6_strikes_2 rfl ?_
    refine wp_aload_n G 0 dX6_strikes_3 rfl ?_
    refine wp_get G 0 cOk5 fX6_9 dX6_strikes_4 h2 rfl ?_
    refine wp_icmp_ge G dX6_strikes_7 (by omega) (by omega) (fun kq1 => ?_) (fun kq1 => ?_)
    · skip
      refine wp_iconst G dX6_strikes_37 ?_
      exact wp_zreturn G (by omega) hr dX6_strikes_38 ⟨by rw [bt_0 (fun ⟨j, h1, h2⟩ => hno j (by omega) h2)], rfl, by rfl⟩
    · skip
      refine wp_aload_n G 0 dX6_strikes_10 rfl ?_
      refine wp_get G 2 cOk5 fX6_19 dX6_strikes_11 h2 rfl ?_
      refine wp_iload_n G 3 dX6_strikes_14 rfl ?_
      refine wp_iald (j := k) G dX6_strikes_15 h4 rfl (by omega) (by decide) ?_
      have rrq1 := hO.d k (by omega)
      refine wp_iload_n G 1 dX6_strikes_16 rfl ?_
      refine wp_icmp_ne G dX6_strikes_17 (by omega) (by omega) (fun kq2 => ?_) (fun kq2 => ?_)
      · skip
        refine wp_iinc (lv' := [(3, zI (((k : Nat) : Int) + 1)), (0, zR 2), (1, zI a), (2, zI m)]) G 3 dX6_strikes_31 rfl (by decide) rfl ?_
        refine wp_goto G dX6_strikes_34 ?_
        refine wp_lv [1, 2, 3, 0] rfl ?_
        exact ih2 (k + 1) (((k : Nat) : Int) + 1) (by omega) (by omega) (by omega) (by intro j hj; rcases Nat.lt_succ_iff_lt_or_eq.mp hj with e | e; exact hno j e; subst e; intro z; first | exact kq2 z.1 | exact kq3 z.2)
      · skip
        refine wp_aload_n G 0 dX6_strikes_20 rfl ?_
        refine wp_iload_n G 3 dX6_strikes_21 rfl ?_
        refine wp_iload_n G 2 dX6_strikes_22 rfl ?_
        refine wp_cVE (b := 2) (ci := 5) (as := [zI ((k : Nat) : Int), zI m]) (rest := []) (hp2 := (nx, h, [])) G mX6_isGreat lX6_45 iX6_isGreat eX6_isGreat ⟨_, rfl, rfl⟩ dX6_strikes_23 h2 rfl rfl (Nat.le_of_ble_eq_true rfl) (rmx_ok hR (by decide) (by decide) (by decide) (by decide)) (t_X6_isGreat (nx := nx) (j := k) (m := m) hQ hO (by omega) ri_m) rfl ?_
        refine wp_ifeq_bt G dX6_strikes_26 (fun kq3 => ?_) (fun kq3 => ?_)
        · skip
          refine wp_iinc (lv' := [(3, zI (((k : Nat) : Int) + 1)), (0, zR 2), (1, zI a), (2, zI m)]) G 3 dX6_strikes_31 rfl (by decide) rfl ?_
          refine wp_goto G dX6_strikes_34 ?_
          refine wp_lv [1, 2, 3, 0] rfl ?_
          exact ih2 (k + 1) (((k : Nat) : Int) + 1) (by omega) (by omega) (by omega) (by intro j hj; rcases Nat.lt_succ_iff_lt_or_eq.mp hj with e | e; exact hno j e; subst e; intro z; first | exact kq2 z.1 | exact kq3 z.2)
        · skip
          refine wp_iconst G dX6_strikes_29 ?_
          exact wp_zreturn G (by omega) hr dX6_strikes_30 ⟨by rw [bt_1 ⟨k, by omega, kq2, kq3⟩], rfl, by rfl⟩

