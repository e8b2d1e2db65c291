
set_option maxRecDepth 100000 in
set_option maxHeartbeats 4000000 in
theorem t_X4_sizeOfFamily {nx : Nat} {h : Nat → Option PC} {n : Nat} {q : Nat → Nat → Int} {o : Nat → Nat} {pr : Nat → Int} {fa : Nat → Int} {sp : Nat → Int} {fo : Nat → Int} {de : Nat → Int} {f : Int} (hQ : isQ h n q o) (hO : okQ n q o) (hM : isMo h pr fa sp fo de) (hS : okS pr fa sp) (hF : ∀ j, j < n → r32 (fo j)) (ri_f : r32 f) : Cx 0 (0, 0) yX4_sizeOfFamily cX4_sizeOfFamily 5 (some .int) [zR 36, zR 2, zI f] nx h (Rt (zI (cntZ (fun j => fo j = f) n)) nx []) := by
  refine cx_of pnX4_sizeOfFamily (Nat.le_of_ble_eq_true rfl) ?_
  intro K G hr hnm hR
  obtain ⟨h2, h3, h4, h5, h6, h7, h8, h9, h10⟩ := id hQ
  have hn40 := hO.1
  obtain ⟨h36, h37, h38, h39, h40, h41⟩ := id hM
  show Wp K 5 (Mx K h (Rt (zI (cntZ (fun j => fo j = f) n)) nx []) (0, 0)) (0, 0) 0 [(0, zR 36), (1, zR 2), (2, zI f)] [] (nx, h, [])
  refine wp_iconst G dX4_sizeOfFamily_0 ?_
  refine wp_istore_n (lv' := [(3, zI 0), (0, zR 36), (1, zR 2), (2, zI f)]) G dX4_sizeOfFamily_1 (by decide) rfl ?_
  refine wp_iconst G dX4_sizeOfFamily_2 ?_
  refine wp_istore (lv' := [(4, zI 0), (3, zI 0), (0, zR 36), (1, zR 2), (2, zI f)]) G dX4_sizeOfFamily_3 (by decide) rfl ?_
  refine wp_lv [2, 3, 4, 1, 0] rfl ?_
  suffices lp5 : ∀ (fu : Nat) (k : Nat) (v3 : Int) (v4 : Int), n - k < fu → (v3 = cntZ (fun j => fo j = f) k) → (v4 = ((k : Nat) : Int)) → (k ≤ n) → Wp K 5 (Mx K h (Rt (zI (cntZ (fun j => fo j = f) n)) nx []) (0, 0)) (0, 0) 5 [(0, zR 36), (1, zR 2), (2, zI f), (3, zI v3), (4, zI v4)] [] (nx, h, []) from lp5 _ 0 0 0 (Nat.lt_succ_self _) (by rfl) (by omega) (by omega)
  intro fu
  induction fu with
  | zero => intro k v3 v4 hm; exact absurd hm (Nat.not_lt_zero _)
  | succ fu ih5 =>
    intro k v3 v4 hm5 e3 e4 hi0
    subst e3
    subst e4
    refine wp_iload G 4 dX4_sizeOfFamily_5 rfl ?_
    refine wp_aload_n G 1 dX4_sizeOfFamily_7 rfl ?_
    refine wp_get G 0 cOk5 fX4_73 dX4_sizeOfFamily_8 h2 rfl ?_
    refine wp_icmp_ge G dX4_sizeOfFamily_11 (by omega) (by omega) (fun kq1 => ?_) (fun kq1 => ?_)
    · skip
      refine wp_iload_n G 3 dX4_sizeOfFamily_34 rfl ?_
      exact wp_ireturn G hr dX4_sizeOfFamily_35 ⟨by rw [show k = n by omega], rfl, by rfl⟩
    · skip
      refine wp_aload_n G 0 dX4_sizeOfFamily_14 rfl ?_
      refine wp_get G 3 cOk4 fX4_23 dX4_sizeOfFamily_15 h36 rfl ?_
      refine wp_iload G 4 dX4_sizeOfFamily_18 rfl ?_
      refine wp_iald (j := k) G dX4_sizeOfFamily_20 h40 rfl (by omega) (by decide) ?_
      have rrq1 := hF k (by omega)
      refine wp_iload_n G 2 dX4_sizeOfFamily_21 rfl ?_
      refine wp_icmp_ne G dX4_sizeOfFamily_22 (by omega) (by omega) (fun kq2 => ?_) (fun kq2 => ?_)
      · skip
        refine wp_iinc (lv' := [(4, zI (((k : Nat) : Int) + 1)), (0, zR 36), (1, zR 2), (2, zI f), (3, zI (cntZ (fun j => fo j = f) k))]) G 4 dX4_sizeOfFamily_28 rfl (by decide) rfl ?_
        refine wp_goto G dX4_sizeOfFamily_31 ?_
        refine wp_lv [1, 2, 3, 4, 0] rfl ?_
        exact ih5 (k + 1) (cntZ (fun j => fo j = f) k) (((k : Nat) : Int) + 1) (by omega) (by first | rw [cntZ_y (by omega)] | rw [cntZ_n (by omega)]) (by omega) (by omega)
      · skip
        refine wp_iinc (lv' := [(3, zI (cntZ (fun j => fo j = f) k + 1)), (0, zR 36), (1, zR 2), (2, zI f), (4, zI ((k : Nat) : Int))]) G 3 dX4_sizeOfFamily_25 rfl (by decide) rfl ?_
        refine wp_iinc (lv' := [(4, zI (((k : Nat) : Int) + 1)), (3, zI (cntZ (fun j => fo j = f) k + 1)), (0, zR 36), (1, zR 2), (2, zI f)]) G 4 dX4_sizeOfFamily_28 rfl (by decide) rfl ?_
        refine wp_goto G dX4_sizeOfFamily_31 ?_
        refine wp_lv [2, 3, 4, 1, 0] rfl ?_
        exact ih5 (k + 1) (cntZ (fun j => fo j = f) k + 1) (((k : Nat) : Int) + 1) (by omega) (by first | rw [cntZ_y (by omega)] | rw [cntZ_n (by omega)]) (by omega) (by omega)

set_option maxRecDepth 100000 in
set_option maxHeartbeats 4000000 in
theorem t_X4_deepestOfFamily {nx : Nat} {h : Nat → Option PC} {n : Nat} {q : Nat → Nat → Int} {o : Nat → Nat} {pr : Nat → Int} {fa : Nat → Int} {sp : Nat → Int} {fo : Nat → Int} {de : Nat → Int} {f : Int} (hQ : isQ h n q o) (hO : okQ n q o) (hM : isMo h pr fa sp fo de) (hS : okS pr fa sp) (hF : ∀ j, j < n → r32 (fo j)) (hD : ∀ j, j < n → 0 ≤ de j ∧ de j ≤ 40) (ri_f : r32 f) : Cx 1 (0, 0) yX4_deepestOfFamily cX4_deepestOfFamily 5 (some .int) [zR 36, zR 2, zI f] nx h (Rt (zI (dpF fo de f n)) nx []) := by
  refine cx_of pnX4_deepestOfFamily (Nat.le_of_ble_eq_true rfl) ?_
  intro K G hr hnm hR
  obtain ⟨h2, h3, h4, h5, h6, h7, h8, h9, h10⟩ := id hQ
  have hn40 := hO.1
  obtain ⟨h36, h37, h38, h39, h40, h41⟩ := id hM
  show Wp K 5 (Mx K h (Rt (zI (dpF fo de f n)) nx []) (0, 0)) (0, 0) 0 [(0, zR 36), (1, zR 2), (2, zI f)] [] (nx, h, [])
  refine wp_iconst G dX4_deepestOfFamily_0 ?_
  refine wp_istore_n (lv' := [(3, zI 0), (0, zR 36), (1, zR 2), (2, zI f)]) G dX4_deepestOfFamily_1 (by decide) rfl ?_
  refine wp_iconst G dX4_deepestOfFamily_2 ?_
  refine wp_istore (lv' := [(4, zI 0), (3, zI 0), (0, zR 36), (1, zR 2), (2, zI f)]) G dX4_deepestOfFamily_3 (by decide) rfl ?_
  refine wp_lv [2, 3, 4, 1, 0] rfl ?_
  suffices lp5 : ∀ (fu : Nat) (k : Nat) (v3 : Int) (v4 : Int), n - k < fu → (v3 = dpF fo de f k) → (v4 = ((k : Nat) : Int)) → (k ≤ n) → (0 ≤ dpF fo de f k ∧ dpF fo de f k ≤ 40) → Wp K 5 (Mx K h (Rt (zI (dpF fo de f n)) nx []) (0, 0)) (0, 0) 5 [(0, zR 36), (1, zR 2), (2, zI f), (3, zI v3), (4, zI v4)] [] (nx, h, []) from lp5 _ 0 0 0 (Nat.lt_succ_self _) (by rfl) (by omega) (by omega) (by rw [dpF]; omega)
  intro fu
  induction fu with
  | zero => intro k v3 v4 hm; exact absurd hm (Nat.not_lt_zero _)
  | succ fu ih5 =>
    intro k v3 v4 hm5 e3 e4 hi0 hdp
    subst e3
    subst e4
    refine wp_iload G 4 dX4_deepestOfFamily_5 rfl ?_
    refine wp_aload_n G 1 dX4_deepestOfFamily_7 rfl ?_
    refine wp_get G 0 cOk5 fX4_73 dX4_deepestOfFamily_8 h2 rfl ?_
    refine wp_icmp_ge G dX4_deepestOfFamily_11 (by omega) (by omega) (fun kq1 => ?_) (fun kq1 => ?_)
    · skip
      refine wp_iload_n G 3 dX4_deepestOfFamily_43 rfl ?_
      exact wp_ireturn G hr dX4_deepestOfFamily_44 ⟨by rw [show k = n by omega], rfl, by rfl⟩
    · skip
      refine wp_aload_n G 0 dX4_deepestOfFamily_14 rfl ?_
      refine wp_get G 3 cOk4 fX4_23 dX4_deepestOfFamily_15 h36 rfl ?_
      refine wp_iload G 4 dX4_deepestOfFamily_18 rfl ?_
      refine wp_iald (j := k) G dX4_deepestOfFamily_20 h40 rfl (by omega) (by decide) ?_
      have rrq1 := hF k (by omega)
      refine wp_iload_n G 2 dX4_deepestOfFamily_21 rfl ?_
      refine wp_icmp_ne G dX4_deepestOfFamily_22 (by omega) (by omega) (fun kq2 => ?_) (fun kq2 => ?_)
      · skip
        refine wp_iinc (lv' := [(4, zI (((k : Nat) : Int) + 1)), (0, zR 36), (1, zR 2), (2, zI f), (3, zI (dpF fo de f k))]) G 4 dX4_deepestOfFamily_37 rfl (by decide) rfl ?_
        refine wp_goto G dX4_deepestOfFamily_40 ?_
        refine wp_lv [1, 2, 3, 4, 0] rfl ?_
        exact ih5 (k + 1) (dpF fo de f k) (((k : Nat) : Int) + 1) (by omega) (by first | rw [dpF, ifZ_y (by omega)] | rw [dpF, ifZ_n (by omega)]) (by omega) (by omega) (by first | (rw [dpF, ifZ_y (by omega)]; omega) | (rw [dpF, ifZ_n (by omega)]; omega))
      · skip
        refine wp_iload_n G 3 dX4_deepestOfFamily_25 rfl ?_
        refine wp_aload_n G 0 dX4_deepestOfFamily_26 rfl ?_
        refine wp_get G 4 cOk4 fX4_26 dX4_deepestOfFamily_27 h36 rfl ?_
        refine wp_iload G 4 dX4_deepestOfFamily_30 rfl ?_
        refine wp_iald (j := k) G dX4_deepestOfFamily_32 h41 rfl (by omega) (by decide) ?_
        have rrq2 := hD k (by omega)
        refine wp_mmax G (by omega) (by omega) lX4_81 sJ9_max_7cf53 mJ9_max_7cf53.1 mJ9_max_7cf53.2.1 dX4_deepestOfFamily_33 (Nat.le_of_ble_eq_true rfl) (rmx_ok (maxL := 2) hR (by decide) (by decide) (by decide) (by decide)) ?_
        refine wp_istore_n (lv' := [(3, zI (max (dpF fo de f k) (de k))), (0, zR 36), (1, zR 2), (2, zI f), (4, zI ((k : Nat) : Int))]) G dX4_deepestOfFamily_36 (by decide) rfl ?_
        refine wp_iinc (lv' := [(4, zI (((k : Nat) : Int) + 1)), (3, zI (max (dpF fo de f k) (de k))), (0, zR 36), (1, zR 2), (2, zI f)]) G 4 dX4_deepestOfFamily_37 rfl (by decide) rfl ?_
        refine wp_goto G dX4_deepestOfFamily_40 ?_
        refine wp_lv [2, 3, 4, 1, 0] rfl ?_
        exact ih5 (k + 1) (max (dpF fo de f k) (de k)) (((k : Nat) : Int) + 1) (by omega) (by first | rw [dpF, ifZ_y (by omega)] | rw [dpF, ifZ_n (by omega)]) (by omega) (by omega) (by first | (rw [dpF, ifZ_y (by omega)]; omega) | (rw [dpF, ifZ_n (by omega)]; omega))

set_option maxRecDepth 100000 in
set_option maxHeartbeats 4000000 in
theorem t_X4_howManyFirst {nx : Nat} {h : Nat → Option PC} {n : Nat} {q : Nat → Nat → Int} {o : Nat → Nat} {pr : Nat → Int} {fa : Nat → Int} {sp : Nat → Int} {fo : Nat → Int} {de : Nat → Int} (hQ : isQ h n q o) (hO : okQ n q o) (hM : isMo h pr fa sp fo de) (hS : okS pr fa sp) (hF : ∀ j, j < n → r32 (fo j)) : Cx 0 (0, 0) yX4_howManyFirst cX4_howManyFirst 4 (some .int) [zR 36, zR 2] nx h (Rt (zI (cntZ (fun j => fo j = ((j : Nat) : Int)) n)) nx []) := by
  refine cx_of pnX4_howManyFirst (Nat.le_of_ble_eq_true rfl) ?_
  intro K G hr hnm hR
  obtain ⟨h2, h3, h4, h5, h6, h7, h8, h9, h10⟩ := id hQ
  have hn40 := hO.1
  obtain ⟨h36, h37, h38, h39, h40, h41⟩ := id hM
  show Wp K 4 (Mx K h (Rt (zI (cntZ (fun j => fo j = ((j : Nat) : Int)) n)) nx []) (0, 0)) (0, 0) 0 [(0, zR 36), (1, zR 2)] [] (nx, h, [])
  refine wp_iconst G dX4_howManyFirst_0 ?_
  refine wp_istore_n (lv' := [(2, zI 0), (0, zR 36), (1, zR 2)]) G dX4_howManyFirst_1 (by decide) rfl ?_
  refine wp_iconst G dX4_howManyFirst_2 ?_
  refine wp_istore_n (lv' := [(3, zI 0), (2, zI 0), (0, zR 36), (1, zR 2)]) G dX4_howManyFirst_3 (by decide) rfl ?_
  refine wp_lv [2, 3, 1, 0] rfl ?_
  suffices lp4 : ∀ (fu : Nat) (k : Nat) (v2 : Int) (v3 : Int), n - k < fu → (v2 = cntZ (fun j => fo j = ((j : Nat) : Int)) k) → (v3 = ((k : Nat) : Int)) → (k ≤ n) → Wp K 4 (Mx K h (Rt (zI (cntZ (fun j => fo j = ((j : Nat) : Int)) n)) nx []) (0, 0)) (0, 0) 4 [(0, zR 36), (1, zR 2), (2, zI v2), (3, zI v3)] [] (nx, h, []) from lp4 _ 0 0 0 (Nat.lt_succ_self _) (by rfl) (by omega) (by omega)
  intro fu
  induction fu with
  | zero => intro k v2 v3 hm; exact absurd hm (Nat.not_lt_zero _)
  | succ fu ih4 =>
    intro k v2 v3 hm4 e2 e3 hi0
    subst e2
    subst e3
    refine wp_iload_n G 3 dX4_howManyFirst_4 rfl ?_
    refine wp_aload_n G 1 dX4_howManyFirst_5 rfl ?_
    refine wp_get G 0 cOk5 fX4_73 dX4_howManyFirst_6 h2 rfl ?_
    refine wp_icmp_ge G dX4_howManyFirst_9 (by omega) (by omega) (fun kq1 => ?_) (fun kq1 => ?_)
    · skip
      refine wp_iload_n G 2 dX4_howManyFirst_31 rfl ?_
      exact wp_ireturn G hr dX4_howManyFirst_32 ⟨by rw [show k = n by omega], rfl, by rfl⟩
    · skip
      refine wp_aload_n G 0 dX4_howManyFirst_12 rfl ?_
      refine wp_get G 3 cOk4 fX4_23 dX4_howManyFirst_13 h36 rfl ?_
      refine wp_iload_n G 3 dX4_howManyFirst_16 rfl ?_
      refine wp_iald (j := k) G dX4_howManyFirst_17 h40 rfl (by omega) (by decide) ?_
      have rrq1 := hF k (by omega)
      refine wp_iload_n G 3 dX4_howManyFirst_18 rfl ?_
      refine wp_icmp_ne G dX4_howManyFirst_19 (by omega) (by omega) (fun kq2 => ?_) (fun kq2 => ?_)
      · skip
        refine wp_iinc (lv' := [(3, zI (((k : Nat) : Int) + 1)), (0, zR 36), (1, zR 2), (2, zI (cntZ (fun j => fo j = ((j : Nat) : Int)) k))]) G 3 dX4_howManyFirst_25 rfl (by decide) rfl ?_
        refine wp_goto G dX4_howManyFirst_28 ?_
        refine wp_lv [1, 2, 3, 0] rfl ?_
        exact ih4 (k + 1) (cntZ (fun j => fo j = ((j : Nat) : Int)) k) (((k : Nat) : Int) + 1) (by omega) (by first | rw [cntZ_y (by omega)] | rw [cntZ_n (by omega)]) (by omega) (by omega)
      · skip
        refine wp_iinc (lv' := [(2, zI (cntZ (fun j => fo j = ((j : Nat) : Int)) k + 1)), (0, zR 36), (1, zR 2), (3, zI ((k : Nat) : Int))]) G 2 dX4_howManyFirst_22 rfl (by decide) rfl ?_
        refine wp_iinc (lv' := [(3, zI (((k : Nat) : Int) + 1)), (2, zI (cntZ (fun j => fo j = ((j : Nat) : Int)) k + 1)), (0, zR 36), (1, zR 2)]) G 3 dX4_howManyFirst_25 rfl (by decide) rfl ?_
        refine wp_goto G dX4_howManyFirst_28 ?_
        refine wp_lv [2, 3, 1, 0] rfl ?_
        exact ih4 (k + 1) (cntZ (fun j => fo j = ((j : Nat) : Int)) k + 1) (((k : Nat) : Int) + 1) (by omega) (by first | rw [cntZ_y (by omega)] | rw [cntZ_n (by omega)]) (by omega) (by omega)

set_option maxRecDepth 100000 in
set_option maxHeartbeats 4000000 in
theorem t_X4_firstAt {nx : Nat} {h : Nat → Option PC} {n : Nat} {q : Nat → Nat → Int} {o : Nat → Nat} {pr : Nat → Int} {fa : Nat → Int} {sp : Nat → Int} {fo : Nat → Int} {de : Nat → Int} {f : Int} (hQ : isQ h n q o) (hO : okQ n q o) (hM : isMo h pr fa sp fo de) (hS : okS pr fa sp) (hF : ∀ j, j < n → r32 (fo j)) (ri_f : r32 f) : Cx 0 (0, 0) yX4_firstAt cX4_firstAt 6 (some .int) [zR 36, zR 2, zI f] nx h (Rt (zI (srch (fun r => fo (o r) = ((o r : Nat) : Int) ∧ cntZ (fun r => fo (o r) = ((o r : Nat) : Int)) r = f) (fun r => ((o r : Nat) : Int)) n)) nx []) := by
  refine cx_of pnX4_firstAt (Nat.le_of_ble_eq_true rfl) ?_
  intro K G hr hnm hR
  obtain ⟨h2, h3, h4, h5, h6, h7, h8, h9, h10⟩ := id hQ
  have hn40 := hO.1
  obtain ⟨h36, h37, h38, h39, h40, h41⟩ := id hM
  show Wp K 6 (Mx K h (Rt (zI (srch (fun r => fo (o r) = ((o r : Nat) : Int) ∧ cntZ (fun r => fo (o r) = ((o r : Nat) : Int)) r = f) (fun r => ((o r : Nat) : Int)) n)) nx []) (0, 0)) (0, 0) 0 [(0, zR 36), (1, zR 2), (2, zI f)] [] (nx, h, [])
  refine wp_iconst G dX4_firstAt_0 ?_
  refine wp_istore_n (lv' := [(3, zI 0), (0, zR 36), (1, zR 2), (2, zI f)]) G dX4_firstAt_1 (by decide) rfl ?_
  refine wp_iconst G dX4_firstAt_2 ?_
  refine wp_istore (lv' := [(4, zI 0), (3, zI 0), (0, zR 36), (1, zR 2), (2, zI f)]) G dX4_firstAt_3 (by decide) rfl ?_
  refine wp_lv [2, 3, 4, 1, 0] rfl ?_
  suffices lp5 : ∀ (fu : Nat) (k : Nat) (v3 : Int) (v4 : Int), n - k < fu → (v3 = cntZ (fun r => fo (o r) = ((o r : Nat) : Int)) k) → (v4 = ((k : Nat) : Int)) → (k ≤ n) → (∀ r, r < k → ¬ (fo (o r) = ((o r : Nat) : Int) ∧ cntZ (fun r => fo (o r) = ((o r : Nat) : Int)) r = f)) → Wp K 6 (Mx K h (Rt (zI (srch (fun r => fo (o r) = ((o r : Nat) : Int) ∧ cntZ (fun r => fo (o r) = ((o r : Nat) : Int)) r = f) (fun r => ((o r : Nat) : Int)) n)) nx []) (0, 0)) (0, 0) 5 [(0, zR 36), (1, zR 2), (2, zI f), (3, zI v3), (4, zI v4)] [] (nx, h, []) from lp5 _ 0 0 0 (Nat.lt_succ_self _) (by rfl) (by omega) (by omega) (by intro r hr; omega)
  intro fu
  induction fu with
  | zero => intro k v3 v4 hm; exact absurd hm (Nat.not_lt_zero _)
  | succ fu ih5 =>
    intro k v3 v4 hm5 e3 e4 hi0 hno
    subst e3
    subst e4
    refine wp_iload G 4 dX4_firstAt_5 rfl ?_
    refine wp_aload_n G 1 dX4_firstAt_7 rfl ?_
    refine wp_get G 0 cOk5 fX4_73 dX4_firstAt_8 h2 rfl ?_
    refine wp_icmp_ge G dX4_firstAt_11 (by omega) (by omega) (fun kq1 => ?_) (fun kq1 => ?_)
    · skip
      refine wp_bipush G dX4_firstAt_52 (by decide) ?_
      exact wp_ireturn G hr dX4_firstAt_54 ⟨by rw [srch_no n (fun r hr => hno r (by omega))], rfl, by rfl⟩
    · skip
      refine wp_aload_n G 1 dX4_firstAt_14 rfl ?_
      refine wp_get G 8 cOk5 fX4_70 dX4_firstAt_15 h2 rfl ?_
      refine wp_iload G 4 dX4_firstAt_18 rfl ?_
      refine wp_iald (j := k) G dX4_firstAt_20 h10 rfl (by omega) (by decide) ?_
      have rrq1 := hO.o k (by omega)
      refine wp_istore (lv' := [(5, zI ((o k : Nat) : Int)), (0, zR 36), (1, zR 2), (2, zI f), (3, zI (cntZ (fun r => fo (o r) = ((o r : Nat) : Int)) k)), (4, zI ((k : Nat) : Int))]) G dX4_firstAt_21 (by decide) rfl ?_
      refine wp_aload_n G 1 dX4_firstAt_23 rfl ?_
      refine wp_get G 3 cOk4 fX4_23 dX4_firstAt_24 h36 rfl ?_
      refine wp_iload G 0 dX4_firstAt_27 rfl ?_
      refine wp_iald (j := o k) G dX4_firstAt_29 h40 rfl (by omega) (by decide) ?_
      have rrq2 := hF (o k) (by omega)
      refine wp_iload G 0 dX4_firstAt_30 rfl ?_
      refine wp_icmp_ne G dX4_firstAt_32 (by omega) (by omega) (fun kq2 => ?_) (fun kq2 => ?_)
      · skip
        refine wp_iinc (lv' := [(4, zI (((k : Nat) : Int) + 1)), (5, zI ((o k : Nat) : Int)), (0, zR 36), (1, zR 2), (2, zI f), (3, zI (cntZ (fun r => fo (o r) = ((o r : Nat) : Int)) k))]) G 5 dX4_firstAt_46 rfl (by decide) rfl ?_
        refine wp_goto G dX4_firstAt_49 ?_
        refine wp_lv [2, 3, 4, 5, 0] rfl ?_
        exact ih5 (k + 1) (cntZ (fun r => fo (o r) = ((o r : Nat) : Int)) k) (((k : Nat) : Int) + 1) (by omega) (by first | rw [cntZ_y (by omega)] | rw [cntZ_n (by omega)]) (by omega) (by omega) (by intro r hr; rcases Nat.lt_succ_iff_lt_or_eq.mp hr with e | e; exact hno r e; subst e; intro z; first | exact kq2 z.1 | exact kq3 z.2)
      · skip
        refine wp_iload_n G 4 dX4_firstAt_35 rfl ?_
        refine wp_iload_n G 3 dX4_firstAt_36 rfl ?_
        have hcr := cntZ_r (fun r => fo (o r) = ((o r : Nat) : Int)) k
        refine wp_icmp_ne G dX4_firstAt_37 (by omega) (by omega) (fun kq3 => ?_) (fun kq3 => ?_)
        · skip
          refine wp_iinc (lv' := [(3, zI (cntZ (fun r => fo (o r) = ((o r : Nat) : Int)) k + 1)), (5, zI ((o k : Nat) : Int)), (0, zR 36), (1, zR 2), (2, zI f), (4, zI ((k : Nat) : Int))]) G 4 dX4_firstAt_43 rfl (by decide) rfl ?_
          refine wp_iinc (lv' := [(4, zI (((k : Nat) : Int) + 1)), (3, zI (cntZ (fun r => fo (o r) = ((o r : Nat) : Int)) k + 1)), (5, zI ((o k : Nat) : Int)), (0, zR 36), (1, zR 2), (2, zI f)]) G 5 dX4_firstAt_46 rfl (by decide) rfl ?_
          refine wp_goto G dX4_firstAt_49 ?_
          refine wp_lv [3, 4, 5, 1, 0] rfl ?_
          exact ih5 (k + 1) (cntZ (fun r => fo (o r) = ((o r : Nat) : Int)) k + 1) (((k : Nat) : Int) + 1) (by omega) (by first | rw [cntZ_y (by omega)] | rw [cntZ_n (by omega)]) (by omega) (by omega) (by intro r hr; rcases Nat.lt_succ_iff_lt_or_eq.mp hr with e | e; exact hno r e; subst e; intro z; first | exact kq2 z.1 | exact kq3 z.2)
        · skip
          refine wp_iload G 0 dX4_firstAt_40 rfl ?_
          exact wp_ireturn G hr dX4_firstAt_42 ⟨by rw [srch_at (v := fun r => ((o r : Nat) : Int)) hno ⟨kq2, kq3⟩ (Int.natCast_nonneg _) n (by omega)], rfl, by rfl⟩

set_option maxRecDepth 100000 in
set_option maxHeartbeats 4000000 in
theorem t_X4_drawn {nx : Nat} {h : Nat → Option PC} {n : Nat} {q : Nat → Nat → Int} {o : Nat → Nat} {pr : Nat → Int} {fa : Nat → Int} {sp : Nat → Int} {fo : Nat → Int} {de : Nat → Int} {s : Int} {p : Nat} {calm : Int} {b : Int} (hQ : isQ h n q o) (hO : okQ n q o) (hM : isMo h pr fa sp fo de) (hS : okS pr fa sp) (hs : 1 ≤ s ∧ s ≤ 1000000) (hp : p < n) (hc : 1 ≤ calm ∧ calm ≤ 100000) (ri_b : r32 b) : Cx 5 (0, 0) yX4_drawn cX4_drawn 14 (some .int) [zR 36, zR 2, zI s, zI ((o p : Nat) : Int), zI b, zI calm] nx h (Rt (zI (srch (fun r => 0 ≤ (Int.tmod (mvF (fun r => cnd q (-1) b (o r)) s (p + 1)) (calm + sumZ (fun r => ifZ (cnd q (-1) b (o r)) (wpl pr fa sp q o p r) 0) p) - calm) - sumZ (fun r => ifZ (cnd q (-1) b (o r)) (wpl pr fa sp q o p r) 0) r ∧ (Int.tmod (mvF (fun r => cnd q (-1) b (o r)) s (p + 1)) (calm + sumZ (fun r => ifZ (cnd q (-1) b (o r)) (wpl pr fa sp q o p r) 0) p) - calm) - sumZ (fun r => ifZ (cnd q (-1) b (o r)) (wpl pr fa sp q o p r) 0) (r + 1) < 0) (fun r => ((o r : Nat) : Int)) p)) nx []) := by
  refine cx_of pnX4_drawn (Nat.le_of_ble_eq_true rfl) ?_
  intro K G hr hnm hR
  obtain ⟨h2, h3, h4, h5, h6, h7, h8, h9, h10⟩ := id hQ
  have hn40 := hO.1
  obtain ⟨h36, h37, h38, h39, h40, h41⟩ := id hM
  have hop := hO.o p hp
  have hsb : ∀ r, r ≤ n → 0 ≤ sumZ (fun r => ifZ (cnd q (-1) b (o r)) (wpl pr fa sp q o p r) 0) r ∧ sumZ (fun r => ifZ (cnd q (-1) b (o r)) (wpl pr fa sp q o p r) 0) r ≤ 40000000 := swl_b hS hO
  show Wp K 14 (Mx K h (Rt (zI (srch (fun r => 0 ≤ (Int.tmod (mvF (fun r => cnd q (-1) b (o r)) s (p + 1)) (calm + sumZ (fun r => ifZ (cnd q (-1) b (o r)) (wpl pr fa sp q o p r) 0) p) - calm) - sumZ (fun r => ifZ (cnd q (-1) b (o r)) (wpl pr fa sp q o p r) 0) r ∧ (Int.tmod (mvF (fun r => cnd q (-1) b (o r)) s (p + 1)) (calm + sumZ (fun r => ifZ (cnd q (-1) b (o r)) (wpl pr fa sp q o p r) 0) p) - calm) - sumZ (fun r => ifZ (cnd q (-1) b (o r)) (wpl pr fa sp q o p r) 0) (r + 1) < 0) (fun r => ((o r : Nat) : Int)) p)) nx []) (0, 0)) (0, 0) 0 [(0, zR 36), (1, zR 2), (2, zI s), (3, zI ((o p : Nat) : Int)), (4, zI b), (5, zI calm)] [] (nx, h, [])
  refine wp_iload_n G 2 dX4_drawn_0 rfl ?_
  refine wp_i2l G (by omega) dX4_drawn_1 ?_
  refine wp_lstore (lv' := [(6, zJ s), (0, zR 36), (1, zR 2), (2, zI s), (3, zI ((o p : Nat) : Int)), (4, zI b), (5, zI calm)]) G dX4_drawn_2 (by decide) rfl ?_
  refine wp_aload_n G 2 dX4_drawn_4 rfl ?_
  refine wp_iload_n G 4 dX4_drawn_5 rfl ?_
  refine wp_cVE (b := 2) (ci := 5) (as := [zI ((o p : Nat) : Int)]) (rest := []) (hp2 := (nx, h, [])) G mX6_placeOf lX4_63 iX6_placeOf eX6_placeOf ⟨_, rfl, rfl⟩ dX4_drawn_6 h2 rfl rfl (Nat.le_of_ble_eq_true rfl) (rmx_ok hR (by decide) (by decide) (by decide) (by decide)) (t_X6_placeOf (nx := nx) (p := p) hQ hO hp) rfl ?_
  refine wp_istore (lv' := [(8, zI ((p : Nat) : Int)), (6, zJ s), (0, zR 36), (1, zR 2), (2, zI s), (3, zI ((o p : Nat) : Int)), (4, zI b), (5, zI calm)]) G dX4_drawn_9 (by decide) rfl ?_
  refine wp_iconst G dX4_drawn_11 ?_
  refine wp_istore (lv' := [(9, zI 0), (8, zI ((p : Nat) : Int)), (6, zJ s), (0, zR 36), (1, zR 2), (2, zI s), (3, zI ((o p : Nat) : Int)), (4, zI b), (5, zI calm)]) G dX4_drawn_12 (by decide) rfl ?_
  refine wp_lv [3, 4, 5, 6, 7, 8, 2, 1, 0] rfl ?_
  suffices lp14 : ∀ (fu : Nat) (k : Nat) (v6 : Int) (v9 : Int), p + 1 - k < fu → (v6 = mvF (fun r => cnd q (-1) b (o r)) s k) → (v9 = ((k : Nat) : Int)) → (k ≤ p + 1) → Wp K 14 (Mx K h (Rt (zI (srch (fun r => 0 ≤ (Int.tmod (mvF (fun r => cnd q (-1) b (o r)) s (p + 1)) (calm + sumZ (fun r => ifZ (cnd q (-1) b (o r)) (wpl pr fa sp q o p r) 0) p) - calm) - sumZ (fun r => ifZ (cnd q (-1) b (o r)) (wpl pr fa sp q o p r) 0) r ∧ (Int.tmod (mvF (fun r => cnd q (-1) b (o r)) s (p + 1)) (calm + sumZ (fun r => ifZ (cnd q (-1) b (o r)) (wpl pr fa sp q o p r) 0) p) - calm) - sumZ (fun r => ifZ (cnd q (-1) b (o r)) (wpl pr fa sp q o p r) 0) (r + 1) < 0) (fun r => ((o r : Nat) : Int)) p)) nx []) (0, 0)) (0, 0) 14 [(0, zR 36), (1, zR 2), (2, zI s), (3, zI ((o p : Nat) : Int)), (4, zI b), (5, zI calm), (6, zJ v6), (8, zI ((p : Nat) : Int)), (9, zI v9)] [] (nx, h, []) from lp14 _ 0 s 0 (Nat.lt_succ_self _) (by rfl) (by omega) (by omega)
  intro fu
  induction fu with
  | zero => intro k v6 v9 hm; exact absurd hm (Nat.not_lt_zero _)
  | succ fu ih14 =>
    intro k v6 v9 hm14 e6 e9 hi0
    subst e6
    subst e9
    have hmv := mvF_b (c := (fun r => cnd q (-1) b (o r))) (s := s) (by omega) k
    refine wp_iload G 8 dX4_drawn_14 rfl ?_
    refine wp_iload G 7 dX4_drawn_16 rfl ?_
    refine wp_icmp_gt G dX4_drawn_18 (by omega) (by omega) (fun kq1 => ?_) (fun kq1 => ?_)
    · skip
      have ekk : k = p + 1 := by omega
      subst ekk
      have hsp := hsb p (by omega)
      have htm := tmod_r (a := mvF (fun r => cnd q (-1) b (o r)) s (p + 1)) (b := (calm + sumZ (fun r => ifZ (cnd q (-1) b (o r)) (wpl pr fa sp q o p r) 0) p)) (by omega) (by omega)
      refine wp_aload_n G 0 dX4_drawn_65 rfl ?_
      refine wp_aload_n G 1 dX4_drawn_66 rfl ?_
      refine wp_iload_n G 3 dX4_drawn_67 rfl ?_
      refine wp_iload G 4 dX4_drawn_68 rfl ?_
      refine wp_iload G 5 dX4_drawn_70 rfl ?_
      refine wp_cVE (b := 36) (ci := 4) (as := [zR 2, zI ((o p : Nat) : Int), zI b, zI calm]) (rest := []) (hp2 := (nx, h, [])) G mX4_allWeights lX4_88 iX4_allWeights eX4_allWeights ⟨_, rfl, rfl⟩ dX4_drawn_72 h36 rfl rfl (Nat.le_of_ble_eq_true rfl) (rmx_ok hR (by decide) (by decide) (by decide) (by decide)) (t_X4_allWeights (nx := nx) (p := p) (b := b) (calm := calm) hQ hO hM hS hp hc ri_b) rfl ?_
      refine wp_istore (lv' := [(9, zI (calm + sumZ (fun r => ifZ (cnd q (-1) b (o r)) (wpl pr fa sp q o p r) 0) p)), (0, zR 36), (1, zR 2), (2, zI s), (3, zI ((o p : Nat) : Int)), (4, zI b), (5, zI calm), (6, zJ (mvF (fun r => cnd q (-1) b (o r)) s (p + 1))), (8, zI ((p : Nat) : Int))]) G dX4_drawn_75 (by decide) rfl ?_
      refine wp_iload G 0 dX4_drawn_77 rfl ?_
      refine wp_if_le G dX4_drawn_79 (by omega) (fun kq2 => ?_) (fun kq2 => ?_)
      · skip
        refine wp_ldc2 (z := -1) G kX4_91 dX4_drawn_95 ?_
        refine wp_lstore (lv' := [(10, zJ (-1)), (9, zI (calm + sumZ (fun r => ifZ (cnd q (-1) b (o r)) (wpl pr fa sp q o p r) 0) p)), (0, zR 36), (1, zR 2), (2, zI s), (3, zI ((o p : Nat) : Int)), (4, zI b), (5, zI calm), (6, zJ (mvF (fun r => cnd q (-1) b (o r)) s (p + 1))), (8, zI ((p : Nat) : Int))]) G dX4_drawn_98 (by decide) rfl ?_
        refine wp_iconst G dX4_drawn_100 ?_
        refine wp_istore (lv' := [(12, zI 0), (10, zJ (-1)), (9, zI (calm + sumZ (fun r => ifZ (cnd q (-1) b (o r)) (wpl pr fa sp q o p r) 0) p)), (0, zR 36), (1, zR 2), (2, zI s), (3, zI ((o p : Nat) : Int)), (4, zI b), (5, zI calm), (6, zJ (mvF (fun r => cnd q (-1) b (o r)) s (p + 1))), (8, zI ((p : Nat) : Int))]) G dX4_drawn_101 (by decide) rfl ?_
        refine wp_lv [3, 4, 5, 6, 7, 8, 9, 10, 2, 1, 0] rfl ?_
        suffices lp103 : ∀ (fu : Nat) (k2 : Nat) (v10 : Int) (v12 : Int), p - k2 < fu → (v10 = ((Int.tmod (mvF (fun r => cnd q (-1) b (o r)) s (p + 1)) (calm + sumZ (fun r => ifZ (cnd q (-1) b (o r)) (wpl pr fa sp q o p r) 0) p) - calm) - sumZ (fun r => ifZ (cnd q (-1) b (o r)) (wpl pr fa sp q o p r) 0) k2)) → (v12 = ((k2 : Nat) : Int)) → (k2 ≤ p) → (∀ r, r < k2 → ¬ (0 ≤ (Int.tmod (mvF (fun r => cnd q (-1) b (o r)) s (p + 1)) (calm + sumZ (fun r => ifZ (cnd q (-1) b (o r)) (wpl pr fa sp q o p r) 0) p) - calm) - sumZ (fun r => ifZ (cnd q (-1) b (o r)) (wpl pr fa sp q o p r) 0) r ∧ (Int.tmod (mvF (fun r => cnd q (-1) b (o r)) s (p + 1)) (calm + sumZ (fun r => ifZ (cnd q (-1) b (o r)) (wpl pr fa sp q o p r) 0) p) - calm) - sumZ (fun r => ifZ (cnd q (-1) b (o r)) (wpl pr fa sp q o p r) 0) (r + 1) < 0)) → Wp K 14 (Mx K h (Rt (zI (srch (fun r => 0 ≤ (Int.tmod (mvF (fun r => cnd q (-1) b (o r)) s (p + 1)) (calm + sumZ (fun r => ifZ (cnd q (-1) b (o r)) (wpl pr fa sp q o p r) 0) p) - calm) - sumZ (fun r => ifZ (cnd q (-1) b (o r)) (wpl pr fa sp q o p r) 0) r ∧ (Int.tmod (mvF (fun r => cnd q (-1) b (o r)) s (p + 1)) (calm + sumZ (fun r => ifZ (cnd q (-1) b (o r)) (wpl pr fa sp q o p r) 0) p) - calm) - sumZ (fun r => ifZ (cnd q (-1) b (o r)) (wpl pr fa sp q o p r) 0) (r + 1) < 0) (fun r => ((o r : Nat) : Int)) p)) nx []) (0, 0)) (0, 0) 103 [(0, zR 36), (1, zR 2), (2, zI s), (3, zI ((o p : Nat) : Int)), (4, zI b), (5, zI calm), (6, zJ (mvF (fun r => cnd q (-1) b (o r)) s (p + 1))), (8, zI ((p : Nat) : Int)), (9, zI (calm + sumZ (fun r => ifZ (cnd q (-1) b (o r)) (wpl pr fa sp q o p r) 0) p)), (10, zJ v10), (12, zI v12)] [] (nx, h, []) from lp103 _ 0 (-1) 0 (Nat.lt_succ_self _) (by rw [sumZ]; omega) (by omega) (by omega) (by intro r hr; omega)
        intro fu
        induction fu with
        | zero => intro k2 v10 v12 hm; exact absurd hm (Nat.not_lt_zero _)
        | succ fu ih103 =>
          intro k2 v10 v12 hm103 e10 e12 hi0 hno
          subst e10
          subst e12
          have hsk := hsb k2 (by omega)
          have hwk := fun z => wpl_b (p := p) hS hO (r := k2) z
          refine wp_iload G 10 dX4_drawn_103 rfl ?_
          refine wp_iload G 7 dX4_drawn_105 rfl ?_
          refine wp_icmp_ge G dX4_drawn_107 (by omega) (by omega) (fun kq3 => ?_) (fun kq3 => ?_)
          · skip
            refine wp_bipush G dX4_drawn_172 (by decide) ?_
            exact wp_ireturn G hr dX4_drawn_174 ⟨by rw [srch_no p (swl_no hS hO (by omega) hno (by omega))], rfl, by rfl⟩
          · skip
            refine wp_lload G 9 dX4_drawn_110 rfl ?_
            refine wp_lconst (z := 0) G dX4_drawn_112 (by decide) ?_
            refine wp_lcmp G (by omega) (by omega) dX4_drawn_113 ?_
            refine wp_if_lt G dX4_drawn_114 (cmpZ_r _ _) (fun kq4 => ?_) (fun kq4 => ?_)
            · have kq4 : ((Int.tmod (mvF (fun r => cnd q (-1) b (o r)) s (p + 1)) (calm + sumZ (fun r => ifZ (cnd q (-1) b (o r)) (wpl pr fa sp q o p r) 0) p) - calm) - sumZ (fun r => ifZ (cnd q (-1) b (o r)) (wpl pr fa sp q o p r) 0) k2) < 0 := cmpZ_lt.mp kq4
              refine wp_bipush G dX4_drawn_172 (by decide) ?_
              exact wp_ireturn G hr dX4_drawn_174 ⟨by rw [srch_no p (swl_no hS hO (by omega) hno (by omega))], rfl, by rfl⟩
            · have kq4 : 0 ≤ ((Int.tmod (mvF (fun r => cnd q (-1) b (o r)) s (p + 1)) (calm + sumZ (fun r => ifZ (cnd q (-1) b (o r)) (wpl pr fa sp q o p r) 0) p) - calm) - sumZ (fun r => ifZ (cnd q (-1) b (o r)) (wpl pr fa sp q o p r) 0) k2) := (Int.not_lt.mp (fun z => absurd (cmpZ_lt.mpr z) (Int.not_lt.mpr kq4)))
              refine wp_aload_n G 1 dX4_drawn_117 rfl ?_
              refine wp_get G 8 cOk5 fX4_70 dX4_drawn_118 h2 rfl ?_
              refine wp_iload G 10 dX4_drawn_121 rfl ?_
              refine wp_iald (j := k2) G dX4_drawn_123 h10 rfl (by omega) (by decide) ?_
              have rrq1 := hO.o k2 (by omega)
              refine wp_istore (lv' := [(13, zI ((o k2 : Nat) : Int)), (0, zR 36), (1, zR 2), (2, zI s), (3, zI ((o p : Nat) : Int)), (4, zI b), (5, zI calm), (6, zJ (mvF (fun r => cnd q (-1) b (o r)) s (p + 1))), (8, zI ((p : Nat) : Int)), (9, zI (calm + sumZ (fun r => ifZ (cnd q (-1) b (o r)) (wpl pr fa sp q o p r) 0) p)), (10, zJ ((Int.tmod (mvF (fun r => cnd q (-1) b (o r)) s (p + 1)) (calm + sumZ (fun r => ifZ (cnd q (-1) b (o r)) (wpl pr fa sp q o p r) 0) p) - calm) - sumZ (fun r => ifZ (cnd q (-1) b (o r)) (wpl pr fa sp q o p r) 0) k2)), (12, zI ((k2 : Nat) : Int))]) G dX4_drawn_124 (by decide) rfl ?_
              have hwk2 := hwk (by omega)
              refine wp_lload G 10 dX4_drawn_126 rfl ?_
              refine wp_aload_n G 2 dX4_drawn_128 rfl ?_
              refine wp_iload G 0 dX4_drawn_129 rfl ?_
              refine wp_iconst G dX4_drawn_131 ?_
              refine wp_iload G 5 dX4_drawn_132 rfl ?_
              refine wp_cVE (b := 2) (ci := 5) (as := [zI ((o k2 : Nat) : Int), zI (-1), zI b]) (rest := [zJ ((Int.tmod (mvF (fun r => cnd q (-1) b (o r)) s (p + 1)) (calm + sumZ (fun r => ifZ (cnd q (-1) b (o r)) (wpl pr fa sp q o p r) 0) p) - calm) - sumZ (fun r => ifZ (cnd q (-1) b (o r)) (wpl pr fa sp q o p r) 0) k2)]) (hp2 := (nx, h, [])) G mX6_isCounted lX4_59 iX6_isCounted eX6_isCounted ⟨_, rfl, rfl⟩ dX4_drawn_134 h2 rfl rfl (Nat.le_of_ble_eq_true rfl) (rmx_ok hR (by decide) (by decide) (by decide) (by decide)) (t_X6_isCounted (nx := nx) (j := (o k2)) (a := (-1)) (b := b) hQ hO (hO.o _ (by omega)) (by omega) ri_b) rfl ?_
              refine wp_ifeq_bt G dX4_drawn_137 (fun kq5 => ?_) (fun kq5 => ?_)
              · skip
                refine wp_lconst (z := 0) G dX4_drawn_152 (by decide) ?_
                refine wp_lsub G dX4_drawn_153 ?_
                refine wp_lstore (lv' := [(10, zJ (((Int.tmod (mvF (fun r => cnd q (-1) b (o r)) s (p + 1)) (calm + sumZ (fun r => ifZ (cnd q (-1) b (o r)) (wpl pr fa sp q o p r) 0) p) - calm) - sumZ (fun r => ifZ (cnd q (-1) b (o r)) (wpl pr fa sp q o p r) 0) k2) - 0)), (13, zI ((o k2 : Nat) : Int)), (0, zR 36), (1, zR 2), (2, zI s), (3, zI ((o p : Nat) : Int)), (4, zI b), (5, zI calm), (6, zJ (mvF (fun r => cnd q (-1) b (o r)) s (p + 1))), (8, zI ((p : Nat) : Int)), (9, zI (calm + sumZ (fun r => ifZ (cnd q (-1) b (o r)) (wpl pr fa sp q o p r) 0) p)), (12, zI ((k2 : Nat) : Int))]) G dX4_drawn_154 (by decide) rfl ?_
                refine wp_lload G 0 dX4_drawn_156 rfl ?_
                refine wp_lconst (z := 0) G dX4_drawn_158 (by decide) ?_
                refine wp_lcmp G (by omega) (by omega) dX4_drawn_159 ?_
                refine wp_if_ge G dX4_drawn_160 (cmpZ_r _ _) (fun kq6 => ?_) (fun kq6 => ?_)
                · have kq6 : 0 ≤ (((Int.tmod (mvF (fun r => cnd q (-1) b (o r)) s (p + 1)) (calm + sumZ (fun r => ifZ (cnd q (-1) b (o r)) (wpl pr fa sp q o p r) 0) p) - calm) - sumZ (fun r => ifZ (cnd q (-1) b (o r)) (wpl pr fa sp q o p r) 0) k2) - 0) := Int.not_lt.mp (fun z => absurd (cmpZ_lt.mpr z) (Int.not_lt.mpr kq6))
                  refine wp_iinc (lv' := [(12, zI (((k2 : Nat) : Int) + 1)), (10, zJ (((Int.tmod (mvF (fun r => cnd q (-1) b (o r)) s (p + 1)) (calm + sumZ (fun r => ifZ (cnd q (-1) b (o r)) (wpl pr fa sp q o p r) 0) p) - calm) - sumZ (fun r => ifZ (cnd q (-1) b (o r)) (wpl pr fa sp q o p r) 0) k2) - 0)), (13, zI ((o k2 : Nat) : Int)), (0, zR 36), (1, zR 2), (2, zI s), (3, zI ((o p : Nat) : Int)), (4, zI b), (5, zI calm), (6, zJ (mvF (fun r => cnd q (-1) b (o r)) s (p + 1))), (8, zI ((p : Nat) : Int)), (9, zI (calm + sumZ (fun r => ifZ (cnd q (-1) b (o r)) (wpl pr fa sp q o p r) 0) p))]) G 11 dX4_drawn_166 rfl (by decide) rfl ?_
                  refine wp_goto G dX4_drawn_169 ?_
                  refine wp_lv [3, 4, 5, 6, 7, 8, 9, 10, 11, 1, 0] rfl ?_
                  exact ih103 (k2 + 1) (((Int.tmod (mvF (fun r => cnd q (-1) b (o r)) s (p + 1)) (calm + sumZ (fun r => ifZ (cnd q (-1) b (o r)) (wpl pr fa sp q o p r) 0) p) - calm) - sumZ (fun r => ifZ (cnd q (-1) b (o r)) (wpl pr fa sp q o p r) 0) k2) - 0) (((k2 : Nat) : Int) + 1) (by omega) (by rw [sumZ]; first | (rw [ifZ_y (by assumption)]; omega) | (rw [ifZ_n (by assumption)]; omega)) (by omega) (by omega) (by intro r hr; rcases Nat.lt_succ_iff_lt_or_eq.mp hr with e | e; exact hno r e; subst e; intro z; have z2 := z.2; rw [sumZ] at z2; first | (rw [ifZ_y (by assumption)] at z2; omega) | (rw [ifZ_n (by assumption)] at z2; omega))
                · have kq6 : (((Int.tmod (mvF (fun r => cnd q (-1) b (o r)) s (p + 1)) (calm + sumZ (fun r => ifZ (cnd q (-1) b (o r)) (wpl pr fa sp q o p r) 0) p) - calm) - sumZ (fun r => ifZ (cnd q (-1) b (o r)) (wpl pr fa sp q o p r) 0) k2) - 0) < 0 := cmpZ_lt.mp kq6
                  refine wp_iload G 1 dX4_drawn_163 rfl ?_
                  exact wp_ireturn G hr dX4_drawn_165 ⟨by rw [srch_at (v := fun r => ((o r : Nat) : Int)) hno (by rw [sumZ]; first | (rw [ifZ_y (by assumption)]; omega) | (rw [ifZ_n (by assumption)]; omega)) (Int.natCast_nonneg _) p (by omega)], rfl, by rfl⟩
              · skip
                refine wp_aload_n G 1 dX4_drawn_140 rfl ?_
                refine wp_aload_n G 2 dX4_drawn_141 rfl ?_
                refine wp_iload_n G 4 dX4_drawn_142 rfl ?_
                refine wp_iload G 0 dX4_drawn_143 rfl ?_
                refine wp_cVE (b := 36) (ci := 4) (as := [zR 2, zI ((o p : Nat) : Int), zI ((o k2 : Nat) : Int)]) (rest := [zJ ((Int.tmod (mvF (fun r => cnd q (-1) b (o r)) s (p + 1)) (calm + sumZ (fun r => ifZ (cnd q (-1) b (o r)) (wpl pr fa sp q o p r) 0) p) - calm) - sumZ (fun r => ifZ (cnd q (-1) b (o r)) (wpl pr fa sp q o p r) 0) k2)]) (hp2 := (nx, h, [])) G mX4_weight lX4_66 iX4_weight eX4_weight ⟨_, rfl, rfl⟩ dX4_drawn_145 h36 rfl rfl (Nat.le_of_ble_eq_true rfl) (rmx_ok hR (by decide) (by decide) (by decide) (by decide)) (t_X4_weight (nx := nx) (p := p) (r := k2) hQ hO hM hS hp (by omega)) rfl ?_
                refine wp_i2l G (by omega) dX4_drawn_148 ?_
                refine wp_goto G dX4_drawn_149 ?_
                refine wp_lsub G dX4_drawn_153 ?_
                refine wp_lstore (lv' := [(10, zJ (((Int.tmod (mvF (fun r => cnd q (-1) b (o r)) s (p + 1)) (calm + sumZ (fun r => ifZ (cnd q (-1) b (o r)) (wpl pr fa sp q o p r) 0) p) - calm) - sumZ (fun r => ifZ (cnd q (-1) b (o r)) (wpl pr fa sp q o p r) 0) k2) - wpl pr fa sp q o p k2)), (13, zI ((o k2 : Nat) : Int)), (0, zR 36), (1, zR 2), (2, zI s), (3, zI ((o p : Nat) : Int)), (4, zI b), (5, zI calm), (6, zJ (mvF (fun r => cnd q (-1) b (o r)) s (p + 1))), (8, zI ((p : Nat) : Int)), (9, zI (calm + sumZ (fun r => ifZ (cnd q (-1) b (o r)) (wpl pr fa sp q o p r) 0) p)), (12, zI ((k2 : Nat) : Int))]) G dX4_drawn_154 (by decide) rfl ?_
                refine wp_lload G 0 dX4_drawn_156 rfl ?_
                refine wp_lconst (z := 0) G dX4_drawn_158 (by decide) ?_
                refine wp_lcmp G (by omega) (by omega) dX4_drawn_159 ?_
                refine wp_if_ge G dX4_drawn_160 (cmpZ_r _ _) (fun kq7 => ?_) (fun kq7 => ?_)
                · have kq7 : 0 ≤ (((Int.tmod (mvF (fun r => cnd q (-1) b (o r)) s (p + 1)) (calm + sumZ (fun r => ifZ (cnd q (-1) b (o r)) (wpl pr fa sp q o p r) 0) p) - calm) - sumZ (fun r => ifZ (cnd q (-1) b (o r)) (wpl pr fa sp q o p r) 0) k2) - wpl pr fa sp q o p k2) := Int.not_lt.mp (fun z => absurd (cmpZ_lt.mpr z) (Int.not_lt.mpr kq7))
                  refine wp_iinc (lv' := [(12, zI (((k2 : Nat) : Int) + 1)), (10, zJ (((Int.tmod (mvF (fun r => cnd q (-1) b (o r)) s (p + 1)) (calm + sumZ (fun r => ifZ (cnd q (-1) b (o r)) (wpl pr fa sp q o p r) 0) p) - calm) - sumZ (fun r => ifZ (cnd q (-1) b (o r)) (wpl pr fa sp q o p r) 0) k2) - wpl pr fa sp q o p k2)), (13, zI ((o k2 : Nat) : Int)), (0, zR 36), (1, zR 2), (2, zI s), (3, zI ((o p : Nat) : Int)), (4, zI b), (5, zI calm), (6, zJ (mvF (fun r => cnd q (-1) b (o r)) s (p + 1))), (8, zI ((p : Nat) : Int)), (9, zI (calm + sumZ (fun r => ifZ (cnd q (-1) b (o r)) (wpl pr fa sp q o p r) 0) p))]) G 11 dX4_drawn_166 rfl (by decide) rfl ?_
                  refine wp_goto G dX4_drawn_169 ?_
                  refine wp_lv [3, 4, 5, 6, 7, 8, 9, 10, 11, 1, 0] rfl ?_
                  exact ih103 (k2 + 1) (((Int.tmod (mvF (fun r => cnd q (-1) b (o r)) s (p + 1)) (calm + sumZ (fun r => ifZ (cnd q (-1) b (o r)) (wpl pr fa sp q o p r) 0) p) - calm) - sumZ (fun r => ifZ (cnd q (-1) b (o r)) (wpl pr fa sp q o p r) 0) k2) - wpl pr fa sp q o p k2) (((k2 : Nat) : Int) + 1) (by omega) (by rw [sumZ]; first | (rw [ifZ_y (by assumption)]; omega) | (rw [ifZ_n (by assumption)]; omega)) (by omega) (by omega) (by intro r hr; rcases Nat.lt_succ_iff_lt_or_eq.mp hr with e | e; exact hno r e; subst e; intro z; have z2 := z.2; rw [sumZ] at z2; first | (rw [ifZ_y (by assumption)] at z2; omega) | (rw [ifZ_n (by assumption)] at z2; omega))
                · have kq7 : (((Int.tmod (mvF (fun r => cnd q (-1) b (o r)) s (p + 1)) (calm + sumZ (fun r => ifZ (cnd q (-1) b (o r)) (wpl pr fa sp q o p r) 0) p) - calm) - sumZ (fun r => ifZ (cnd q (-1) b (o r)) (wpl pr fa sp q o p r) 0) k2) - wpl pr fa sp q o p k2) < 0 := cmpZ_lt.mp kq7
                  refine wp_iload G 1 dX4_drawn_163 rfl ?_
                  exact wp_ireturn G hr dX4_drawn_165 ⟨by rw [srch_at (v := fun r => ((o r : Nat) : Int)) hno (by rw [sumZ]; first | (rw [ifZ_y (by assumption)]; omega) | (rw [ifZ_n (by assumption)]; omega)) (Int.natCast_nonneg _) p (by omega)], rfl, by rfl⟩
      · skip
        refine wp_lload G 7 dX4_drawn_82 rfl ?_
        refine wp_iload G 0 dX4_drawn_84 rfl ?_
        refine wp_i2l G (by omega) dX4_drawn_86 ?_
        refine wp_lrem G (by omega) (by omega) (by omega) dX4_drawn_87 ?_
        refine wp_iload G 6 dX4_drawn_88 rfl ?_
        refine wp_i2l G (by omega) dX4_drawn_90 ?_
        refine wp_lsub G dX4_drawn_91 ?_
        refine wp_goto G dX4_drawn_92 ?_
        refine wp_lstore (lv' := [(10, zJ ((Int.tmod (mvF (fun r => cnd q (-1) b (o r)) s (p + 1)) (calm + sumZ (fun r => ifZ (cnd q (-1) b (o r)) (wpl pr fa sp q o p r) 0) p)) - calm)), (9, zI (calm + sumZ (fun r => ifZ (cnd q (-1) b (o r)) (wpl pr fa sp q o p r) 0) p)), (0, zR 36), (1, zR 2), (2, zI s), (3, zI ((o p : Nat) : Int)), (4, zI b), (5, zI calm), (6, zJ (mvF (fun r => cnd q (-1) b (o r)) s (p + 1))), (8, zI ((p : Nat) : Int))]) G dX4_drawn_98 (by decide) rfl ?_
        refine wp_iconst G dX4_drawn_100 ?_
        refine wp_istore (lv' := [(12, zI 0), (10, zJ ((Int.tmod (mvF (fun r => cnd q (-1) b (o r)) s (p + 1)) (calm + sumZ (fun r => ifZ (cnd q (-1) b (o r)) (wpl pr fa sp q o p r) 0) p)) - calm)), (9, zI (calm + sumZ (fun r => ifZ (cnd q (-1) b (o r)) (wpl pr fa sp q o p r) 0) p)), (0, zR 36), (1, zR 2), (2, zI s), (3, zI ((o p : Nat) : Int)), (4, zI b), (5, zI calm), (6, zJ (mvF (fun r => cnd q (-1) b (o r)) s (p + 1))), (8, zI ((p : Nat) : Int))]) G dX4_drawn_101 (by decide) rfl ?_
        refine wp_lv [3, 4, 5, 6, 7, 8, 9, 10, 2, 1, 0] rfl ?_
        suffices lp103 : ∀ (fu : Nat) (k2 : Nat) (v10 : Int) (v12 : Int), p - k2 < fu → (v10 = ((Int.tmod (mvF (fun r => cnd q (-1) b (o r)) s (p + 1)) (calm + sumZ (fun r => ifZ (cnd q (-1) b (o r)) (wpl pr fa sp q o p r) 0) p) - calm) - sumZ (fun r => ifZ (cnd q (-1) b (o r)) (wpl pr fa sp q o p r) 0) k2)) → (v12 = ((k2 : Nat) : Int)) → (k2 ≤ p) → (∀ r, r < k2 → ¬ (0 ≤ (Int.tmod (mvF (fun r => cnd q (-1) b (o r)) s (p + 1)) (calm + sumZ (fun r => ifZ (cnd q (-1) b (o r)) (wpl pr fa sp q o p r) 0) p) - calm) - sumZ (fun r => ifZ (cnd q (-1) b (o r)) (wpl pr fa sp q o p r) 0) r ∧ (Int.tmod (mvF (fun r => cnd q (-1) b (o r)) s (p + 1)) (calm + sumZ (fun r => ifZ (cnd q (-1) b (o r)) (wpl pr fa sp q o p r) 0) p) - calm) - sumZ (fun r => ifZ (cnd q (-1) b (o r)) (wpl pr fa sp q o p r) 0) (r + 1) < 0)) → Wp K 14 (Mx K h (Rt (zI (srch (fun r => 0 ≤ (Int.tmod (mvF (fun r => cnd q (-1) b (o r)) s (p + 1)) (calm + sumZ (fun r => ifZ (cnd q (-1) b (o r)) (wpl pr fa sp q o p r) 0) p) - calm) - sumZ (fun r => ifZ (cnd q (-1) b (o r)) (wpl pr fa sp q o p r) 0) r ∧ (Int.tmod (mvF (fun r => cnd q (-1) b (o r)) s (p + 1)) (calm + sumZ (fun r => ifZ (cnd q (-1) b (o r)) (wpl pr fa sp q o p r) 0) p) - calm) - sumZ (fun r => ifZ (cnd q (-1) b (o r)) (wpl pr fa sp q o p r) 0) (r + 1) < 0) (fun r => ((o r : Nat) : Int)) p)) nx []) (0, 0)) (0, 0) 103 [(0, zR 36), (1, zR 2), (2, zI s), (3, zI ((o p : Nat) : Int)), (4, zI b), (5, zI calm), (6, zJ (mvF (fun r => cnd q (-1) b (o r)) s (p + 1))), (8, zI ((p : Nat) : Int)), (9, zI (calm + sumZ (fun r => ifZ (cnd q (-1) b (o r)) (wpl pr fa sp q o p r) 0) p)), (10, zJ v10), (12, zI v12)] [] (nx, h, []) from lp103 _ 0 ((Int.tmod (mvF (fun r => cnd q (-1) b (o r)) s (p + 1)) (calm + sumZ (fun r => ifZ (cnd q (-1) b (o r)) (wpl pr fa sp q o p r) 0) p)) - calm) 0 (Nat.lt_succ_self _) (by rw [sumZ]; omega) (by omega) (by omega) (by intro r hr; omega)
        intro fu
        induction fu with
        | zero => intro k2 v10 v12 hm; exact absurd hm (Nat.not_lt_zero _)
        | succ fu ih103 =>
          intro k2 v10 v12 hm103 e10 e12 hi0 hno
          subst e10
          subst e12
          have hsk := hsb k2 (by omega)
          have hwk := fun z => wpl_b (p := p) hS hO (r := k2) z
          refine wp_iload G 10 dX4_drawn_103 rfl ?_
          refine wp_iload G 7 dX4_drawn_105 rfl ?_
          refine wp_icmp_ge G dX4_drawn_107 (by omega) (by omega) (fun kq8 => ?_) (fun kq8 => ?_)
          · skip
            refine wp_bipush G dX4_drawn_172 (by decide) ?_
            exact wp_ireturn G hr dX4_drawn_174 ⟨by rw [srch_no p (swl_no hS hO (by omega) hno (by omega))], rfl, by rfl⟩
          · skip
            refine wp_lload G 9 dX4_drawn_110 rfl ?_
            refine wp_lconst (z := 0) G dX4_drawn_112 (by decide) ?_
            refine wp_lcmp G (by omega) (by omega) dX4_drawn_113 ?_
            refine wp_if_lt G dX4_drawn_114 (cmpZ_r _ _) (fun kq9 => ?_) (fun kq9 => ?_)
            · have kq9 : ((Int.tmod (mvF (fun r => cnd q (-1) b (o r)) s (p + 1)) (calm + sumZ (fun r => ifZ (cnd q (-1) b (o r)) (wpl pr fa sp q o p r) 0) p) - calm) - sumZ (fun r => ifZ (cnd q (-1) b (o r)) (wpl pr fa sp q o p r) 0) k2) < 0 := cmpZ_lt.mp kq9
              refine wp_bipush G dX4_drawn_172 (by decide) ?_
              exact wp_ireturn G hr dX4_drawn_174 ⟨by rw [srch_no p (swl_no hS hO (by omega) hno (by omega))], rfl, by rfl⟩
            · have kq9 : 0 ≤ ((Int.tmod (mvF (fun r => cnd q (-1) b (o r)) s (p + 1)) (calm + sumZ (fun r => ifZ (cnd q (-1) b (o r)) (wpl pr fa sp q o p r) 0) p) - calm) - sumZ (fun r => ifZ (cnd q (-1) b (o r)) (wpl pr fa sp q o p r) 0) k2) := (Int.not_lt.mp (fun z => absurd (cmpZ_lt.mpr z) (Int.not_lt.mpr kq9)))
              refine wp_aload_n G 1 dX4_drawn_117 rfl ?_
              refine wp_get G 8 cOk5 fX4_70 dX4_drawn_118 h2 rfl ?_
              refine wp_iload G 10 dX4_drawn_121 rfl ?_
              refine wp_iald (j := k2) G dX4_drawn_123 h10 rfl (by omega) (by decide) ?_
              have rrq2 := hO.o k2 (by omega)
              refine wp_istore (lv' := [(13, zI ((o k2 : Nat) : Int)), (0, zR 36), (1, zR 2), (2, zI s), (3, zI ((o p : Nat) : Int)), (4, zI b), (5, zI calm), (6, zJ (mvF (fun r => cnd q (-1) b (o r)) s (p + 1))), (8, zI ((p : Nat) : Int)), (9, zI (calm + sumZ (fun r => ifZ (cnd q (-1) b (o r)) (wpl pr fa sp q o p r) 0) p)), (10, zJ ((Int.tmod (mvF (fun r => cnd q (-1) b (o r)) s (p + 1)) (calm + sumZ (fun r => ifZ (cnd q (-1) b (o r)) (wpl pr fa sp q o p r) 0) p) - calm) - sumZ (fun r => ifZ (cnd q (-1) b (o r)) (wpl pr fa sp q o p r) 0) k2)), (12, zI ((k2 : Nat) : Int))]) G dX4_drawn_124 (by decide) rfl ?_
              have hwk2 := hwk (by omega)
              refine wp_lload G 10 dX4_drawn_126 rfl ?_
              refine wp_aload_n G 2 dX4_drawn_128 rfl ?_
              refine wp_iload G 0 dX4_drawn_129 rfl ?_
              refine wp_iconst G dX4_drawn_131 ?_
              refine wp_iload G 5 dX4_drawn_132 rfl ?_
              refine wp_cVE (b := 2) (ci := 5) (as := [zI ((o k2 : Nat) : Int), zI (-1), zI b]) (rest := [zJ ((Int.tmod (mvF (fun r => cnd q (-1) b (o r)) s (p + 1)) (calm + sumZ (fun r => ifZ (cnd q (-1) b (o r)) (wpl pr fa sp q o p r) 0) p) - calm) - sumZ (fun r => ifZ (cnd q (-1) b (o r)) (wpl pr fa sp q o p r) 0) k2)]) (hp2 := (nx, h, [])) G mX6_isCounted lX4_59 iX6_isCounted eX6_isCounted ⟨_, rfl, rfl⟩ dX4_drawn_134 h2 rfl rfl (Nat.le_of_ble_eq_true rfl) (rmx_ok hR (by decide) (by decide) (by decide) (by decide)) (t_X6_isCounted (nx := nx) (j := (o k2)) (a := (-1)) (b := b) hQ hO (hO.o _ (by omega)) (by omega) ri_b) rfl ?_
              refine wp_ifeq_bt G dX4_drawn_137 (fun kq10 => ?_) (fun kq10 => ?_)
              · skip
                refine wp_lconst (z := 0) G dX4_drawn_152 (by decide) ?_
                refine wp_lsub G dX4_drawn_153 ?_
                refine wp_lstore (lv' := [(10, zJ (((Int.tmod (mvF (fun r => cnd q (-1) b (o r)) s (p + 1)) (calm + sumZ (fun r => ifZ (cnd q (-1) b (o r)) (wpl pr fa sp q o p r) 0) p) - calm) - sumZ (fun r => ifZ (cnd q (-1) b (o r)) (wpl pr fa sp q o p r) 0) k2) - 0)), (13, zI ((o k2 : Nat) : Int)), (0, zR 36), (1, zR 2), (2, zI s), (3, zI ((o p : Nat) : Int)), (4, zI b), (5, zI calm), (6, zJ (mvF (fun r => cnd q (-1) b (o r)) s (p + 1))), (8, zI ((p : Nat) : Int)), (9, zI (calm + sumZ (fun r => ifZ (cnd q (-1) b (o r)) (wpl pr fa sp q o p r) 0) p)), (12, zI ((k2 : Nat) : Int))]) G dX4_drawn_154 (by decide) rfl ?_
                refine wp_lload G 0 dX4_drawn_156 rfl ?_
                refine wp_lconst (z := 0) G dX4_drawn_158 (by decide) ?_
                refine wp_lcmp G (by omega) (by omega) dX4_drawn_159 ?_
                refine wp_if_ge G dX4_drawn_160 (cmpZ_r _ _) (fun kq11 => ?_) (fun kq11 => ?_)
                · have kq11 : 0 ≤ (((Int.tmod (mvF (fun r => cnd q (-1) b (o r)) s (p + 1)) (calm + sumZ (fun r => ifZ (cnd q (-1) b (o r)) (wpl pr fa sp q o p r) 0) p) - calm) - sumZ (fun r => ifZ (cnd q (-1) b (o r)) (wpl pr fa sp q o p r) 0) k2) - 0) := Int.not_lt.mp (fun z => absurd (cmpZ_lt.mpr z) (Int.not_lt.mpr kq11))
                  refine wp_iinc (lv' := [(12, zI (((k2 : Nat) : Int) + 1)), (10, zJ (((Int.tmod (mvF (fun r => cnd q (-1) b (o r)) s (p + 1)) (calm + sumZ (fun r => ifZ (cnd q (-1) b (o r)) (wpl pr fa sp q o p r) 0) p) - calm) - sumZ (fun r => ifZ (cnd q (-1) b (o r)) (wpl pr fa sp q o p r) 0) k2) - 0)), (13, zI ((o k2 : Nat) : Int)), (0, zR 36), (1, zR 2), (2, zI s), (3, zI ((o p : Nat) : Int)), (4, zI b), (5, zI calm), (6, zJ (mvF (fun r => cnd q (-1) b (o r)) s (p + 1))), (8, zI ((p : Nat) : Int)), (9, zI (calm + sumZ (fun r => ifZ (cnd q (-1) b (o r)) (wpl pr fa sp q o p r) 0) p))]) G 11 dX4_drawn_166 rfl (by decide) rfl ?_
                  refine wp_goto G dX4_drawn_169 ?_
                  refine wp_lv [3, 4, 5, 6, 7, 8, 9, 10, 11, 1, 0] rfl ?_
                  exact ih103 (k2 + 1) (((Int.tmod (mvF (fun r => cnd q (-1) b (o r)) s (p + 1)) (calm + sumZ (fun r => ifZ (cnd q (-1) b (o r)) (wpl pr fa sp q o p r) 0) p) - calm) - sumZ (fun r => ifZ (cnd q (-1) b (o r)) (wpl pr fa sp q o p r) 0) k2) - 0) (((k2 : Nat) : Int) + 1) (by omega) (by rw [sumZ]; first | (rw [ifZ_y (by assumption)]; omega) | (rw [ifZ_n (by assumption)]; omega)) (by omega) (by omega) (by intro r hr; rcases Nat.lt_succ_iff_lt_or_eq.mp hr with e | e; exact hno r e; subst e; intro z; have z2 := z.2; rw [sumZ] at z2; first | (rw [ifZ_y (by assumption)] at z2; omega) | (rw [ifZ_n (by assumption)] at z2; omega))
                · have kq11 : (((Int.tmod (mvF (fun r => cnd q (-1) b (o r)) s (p + 1)) (calm + sumZ (fun r => ifZ (cnd q (-1) b (o r)) (wpl pr fa sp q o p r) 0) p) - calm) - sumZ (fun r => ifZ (cnd q (-1) b (o r)) (wpl pr fa sp q o p r) 0) k2) - 0) < 0 := cmpZ_lt.mp kq11
                  refine wp_iload G 1 dX4_drawn_163 rfl ?_
                  exact wp_ireturn G hr dX4_drawn_165 ⟨by rw [srch_at (v := fun r => ((o r : Nat) : Int)) hno (by rw [sumZ]; first | (rw [ifZ_y (by assumption)]; omega) | (rw [ifZ_n (by assumption)]; omega)) (Int.natCast_nonneg _) p (by omega)], rfl, by rfl⟩
              · skip
                refine wp_aload_n G 1 dX4_drawn_140 rfl ?_
                refine wp_aload_n G 2 dX4_drawn_141 rfl ?_
                refine wp_iload_n G 4 dX4_drawn_142 rfl ?_
                refine wp_iload G 0 dX4_drawn_143 rfl ?_
                refine wp_cVE (b := 36) (ci := 4) (as := [zR 2, zI ((o p : Nat) : Int), zI ((o k2 : Nat) : Int)]) (rest := [zJ ((Int.tmod (mvF (fun r => cnd q (-1) b (o r)) s (p + 1)) (calm + sumZ (fun r => ifZ (cnd q (-1) b (o r)) (wpl pr fa sp q o p r) 0) p) - calm) - sumZ (fun r => ifZ (cnd q (-1) b (o r)) (wpl pr fa sp q o p r) 0) k2)]) (hp2 := (nx, h, [])) G mX4_weight lX4_66 iX4_weight eX4_weight ⟨_, rfl, rfl⟩ dX4_drawn_145 h36 rfl rfl (Nat.le_of_ble_eq_true rfl) (rmx_ok hR (by decide) (by decide) (by decide) (by decide)) (t_X4_weight (nx := nx) (p := p) (r := k2) hQ hO hM hS hp (by omega)) rfl ?_
                refine wp_i2l G (by omega) dX4_drawn_148 ?_
                refine wp_goto G dX4_drawn_149 ?_
                refine wp_lsub G dX4_drawn_153 ?_
                refine wp_lstore (lv' := [(10, zJ (((Int.tmod (mvF (fun r => cnd q (-1) b (o r)) s (p + 1)) (calm + sumZ (fun r => ifZ (cnd q (-1) b (o r)) (wpl pr fa sp q o p r) 0) p) - calm) - sumZ (fun r => ifZ (cnd q (-1) b (o r)) (wpl pr fa sp q o p r) 0) k2) - wpl pr fa sp q o p k2)), (13, zI ((o k2 : Nat) : Int)), (0, zR 36), (1, zR 2), (2, zI s), (3, zI ((o p : Nat) : Int)), (4, zI b), (5, zI calm), (6, zJ (mvF (fun r => cnd q (-1) b (o r)) s (p + 1))), (8, zI ((p : Nat) : Int)), (9, zI (calm + sumZ (fun r => ifZ (cnd q (-1) b (o r)) (wpl pr fa sp q o p r) 0) p)), (12, zI ((k2 : Nat) : Int))]) G dX4_drawn_154 (by decide) rfl ?_
                refine wp_lload G 0 dX4_drawn_156 rfl ?_
                refine wp_lconst (z := 0) G dX4_drawn_158 (by decide) ?_
                refine wp_lcmp G (by omega) (by omega) dX4_drawn_159 ?_
                refine wp_if_ge G dX4_drawn_160 (cmpZ_r _ _) (fun kq12 => ?_) (fun kq12 => ?_)
                · have kq12 : 0 ≤ (((Int.tmod (mvF (fun r => cnd q (-1) b (o r)) s (p + 1)) (calm + sumZ (fun r => ifZ (cnd q (-1) b (o r)) (wpl pr fa sp q o p r) 0) p) - calm) - sumZ (fun r => ifZ (cnd q (-1) b (o r)) (wpl pr fa sp q o p r) 0) k2) - wpl pr fa sp q o p k2) := Int.not_lt.mp (fun z => absurd (cmpZ_lt.mpr z) (Int.not_lt.mpr kq12))
                  refine wp_iinc (lv' := [(12, zI (((k2 : Nat) : Int) + 1)), (10, zJ (((Int.tmod (mvF (fun r => cnd q (-1) b (o r)) s (p + 1)) (calm + sumZ (fun r => ifZ (cnd q (-1) b (o r)) (wpl pr fa sp q o p r) 0) p) - calm) - sumZ (fun r => ifZ (cnd q (-1) b (o r)) (wpl pr fa sp q o p r) 0) k2) - wpl pr fa sp q o p k2)), (13, zI ((o k2 : Nat) : Int)), (0, zR 36), (1, zR 2), (2, zI s), (3, zI ((o p : Nat) : Int)), (4, zI b), (5, zI calm), (6, zJ (mvF (fun r => cnd q (-1) b (o r)) s (p + 1))), (8, zI ((p : Nat) : Int)), (9, zI (calm + sumZ (fun r => ifZ (cnd q (-1) b (o r)) (wpl pr fa sp q o p r) 0) p))]) G 11 dX4_drawn_166 rfl (by decide) rfl ?_
                  refine wp_goto G dX4_drawn_169 ?_
                  refine wp_lv [3, 4, 5, 6, 7, 8, 9, 10, 11, 1, 0] rfl ?_
                  exact ih103 (k2 + 1) (((Int.tmod (mvF (fun r => cnd q (-1) b (o r)) s (p + 1)) (calm + sumZ (fun r => ifZ (cnd q (-1) b (o r)) (wpl pr fa sp q o p r) 0) p) - calm) - sumZ (fun r => ifZ (cnd q (-1) b (o r)) (wpl pr fa sp q o p r) 0) k2) - wpl pr fa sp q o p k2) (((k2 : Nat) : Int) + 1) (by omega) (by rw [sumZ]; first | (rw [ifZ_y (by assumption)]; omega) | (rw [ifZ_n (by assumption)]; omega)) (by omega) (by omega) (by intro r hr; rcases Nat.lt_succ_iff_lt_or_eq.mp hr with e | e; exact hno r e; subst e; intro z; have z2 := z.2; rw [sumZ] at z2; first | (rw [ifZ_y (by assumption)] at z2; omega) | (rw [ifZ_n (by assumption)] at z2; omega))
                · have kq12 : (((Int.tmod (mvF (fun r => cnd q (-1) b (o r)) s (p + 1)) (calm + sumZ (fun r => ifZ (cnd q (-1) b (o r)) (wpl pr fa sp q o p r) 0) p) - calm) - sumZ (fun r => ifZ (cnd q (-1) b (o r)) (wpl pr fa sp q o p r) 0) k2) - wpl pr fa sp q o p k2) < 0 := cmpZ_lt.mp kq12
                  refine wp_iload G 1 dX4_drawn_163 rfl ?_
                  exact wp_ireturn G hr dX4_drawn_165 ⟨by rw [srch_at (v := fun r => ((o r : Nat) : Int)) hno (by rw [sumZ]; first | (rw [ifZ_y (by assumption)]; omega) | (rw [ifZ_n (by assumption)]; omega)) (Int.natCast_nonneg _) p (by omega)], rfl, by rfl⟩
    · skip
      refine wp_iload G 8 dX4_drawn_21 rfl ?_
      refine wp_aload_n G 1 dX4_drawn_23 rfl ?_
      refine wp_get G 0 cOk5 fX4_73 dX4_drawn_24 h2 rfl ?_
      refine wp_icmp_ge G dX4_drawn_27 (by omega) (by omega) (fun kq13 => ?_) (fun kq13 => ?_)
      · skip
        have ekk : k = p + 1 := by omega
        subst ekk
        have hsp := hsb p (by omega)
        have htm := tmod_r (a := mvF (fun r => cnd q (-1) b (o r)) s (p + 1)) (b := (calm + sumZ (fun r => ifZ (cnd q (-1) b (o r)) (wpl pr fa sp q o p r) 0) p)) (by omega) (by omega)
        refine wp_aload_n G 0 dX4_drawn_65 rfl ?_
        refine wp_aload_n G 1 dX4_drawn_66 rfl ?_
        refine wp_iload_n G 3 dX4_drawn_67 rfl ?_
        refine wp_iload G 4 dX4_drawn_68 rfl ?_
        refine wp_iload G 5 dX4_drawn_70 rfl ?_
        refine wp_cVE (b := 36) (ci := 4) (as := [zR 2, zI ((o p : Nat) : Int), zI b, zI calm]) (rest := []) (hp2 := (nx, h, [])) G mX4_allWeights lX4_88 iX4_allWeights eX4_allWeights ⟨_, rfl, rfl⟩ dX4_drawn_72 h36 rfl rfl (Nat.le_of_ble_eq_true rfl) (rmx_ok hR (by decide) (by decide) (by decide) (by decide)) (t_X4_allWeights (nx := nx) (p := p) (b := b) (calm := calm) hQ hO hM hS hp hc ri_b) rfl ?_
        refine wp_istore (lv' := [(9, zI (calm + sumZ (fun r => ifZ (cnd q (-1) b (o r)) (wpl pr fa sp q o p r) 0) p)), (0, zR 36), (1, zR 2), (2, zI s), (3, zI ((o p : Nat) : Int)), (4, zI b), (5, zI calm), (6, zJ (mvF (fun r => cnd q (-1) b (o r)) s (p + 1))), (8, zI ((p : Nat) : Int))]) G dX4_drawn_75 (by decide) rfl ?_
        refine wp_iload G 0 dX4_drawn_77 rfl ?_
        refine wp_if_le G dX4_drawn_79 (by omega) (fun kq14 => ?_) (fun kq14 => ?_)
        · skip
          refine wp_ldc2 (z := -1) G kX4_91 dX4_drawn_95 ?_
          refine wp_lstore (lv' := [(10, zJ (-1)), (9, zI (calm + sumZ (fun r => ifZ (cnd q (-1) b (o r)) (wpl pr fa sp q o p r) 0) p)), (0, zR 36), (1, zR 2), (2, zI s), (3, zI ((o p : Nat) : Int)), (4, zI b), (5, zI calm), (6, zJ (mvF (fun r => cnd q (-1) b (o r)) s (p + 1))), (8, zI ((p : Nat) : Int))]) G dX4_drawn_98 (by decide) rfl ?_
          refine wp_iconst G dX4_drawn_100 ?_
          refine wp_istore (lv' := [(12, zI 0), (10, zJ (-1)), (9, zI (calm + sumZ (fun r => ifZ (cnd q (-1) b (o r)) (wpl pr fa sp q o p r) 0) p)), (0, zR 36), (1, zR 2), (2, zI s), (3, zI ((o p : Nat) : Int)), (4, zI b), (5, zI calm), (6, zJ (mvF (fun r => cnd q (-1) b (o r)) s (p + 1))), (8, zI ((p : Nat) : Int))]) G dX4_drawn_101 (by decide) rfl ?_
          refine wp_lv [3, 4, 5, 6, 7, 8, 9, 10, 2, 1, 0] rfl ?_
          suffices lp103 : ∀ (fu : Nat) (k2 : Nat) (v10 : Int) (v12 : Int), p - k2 < fu → (v10 = ((Int.tmod (mvF (fun r => cnd q (-1) b (o r)) s (p + 1)) (calm + sumZ (fun r => ifZ (cnd q (-1) b (o r)) (wpl pr fa sp q o p r) 0) p) - calm) - sumZ (fun r => ifZ (cnd q (-1) b (o r)) (wpl pr fa sp q o p r) 0) k2)) → (v12 = ((k2 : Nat) : Int)) → (k2 ≤ p) → (∀ r, r < k2 → ¬ (0 ≤ (Int.tmod (mvF (fun r => cnd q (-1) b (o r)) s (p + 1)) (calm + sumZ (fun r => ifZ (cnd q (-1) b (o r)) (wpl pr fa sp q o p r) 0) p) - calm) - sumZ (fun r => ifZ (cnd q (-1) b (o r)) (wpl pr fa sp q o p r) 0) r ∧ (Int.tmod (mvF (fun r => cnd q (-1) b (o r)) s (p + 1)) (calm + sumZ (fun r => ifZ (cnd q (-1) b (o r)) (wpl pr fa sp q o p r) 0) p) - calm) - sumZ (fun r => ifZ (cnd q (-1) b (o r)) (wpl pr fa sp q o p r) 0) (r + 1) < 0)) → Wp K 14 (Mx K h (Rt (zI (srch (fun r => 0 ≤ (Int.tmod (mvF (fun r => cnd q (-1) b (o r)) s (p + 1)) (calm + sumZ (fun r => ifZ (cnd q (-1) b (o r)) (wpl pr fa sp q o p r) 0) p) - calm) - sumZ (fun r => ifZ (cnd q (-1) b (o r)) (wpl pr fa sp q o p r) 0) r ∧ (Int.tmod (mvF (fun r => cnd q (-1) b (o r)) s (p + 1)) (calm + sumZ (fun r => ifZ (cnd q (-1) b (o r)) (wpl pr fa sp q o p r) 0) p) - calm) - sumZ (fun r => ifZ (cnd q (-1) b (o r)) (wpl pr fa sp q o p r) 0) (r + 1) < 0) (fun r => ((o r : Nat) : Int)) p)) nx []) (0, 0)) (0, 0) 103 [(0, zR 36), (1, zR 2), (2, zI s), (3, zI ((o p : Nat) : Int)), (4, zI b), (5, zI calm), (6, zJ (mvF (fun r => cnd q (-1) b (o r)) s (p + 1))), (8, zI ((p : Nat) : Int)), (9, zI (calm + sumZ (fun r => ifZ (cnd q (-1) b (o r)) (wpl pr fa sp q o p r) 0) p)), (10, zJ v10), (12, zI v12)] [] (nx, h, []) from lp103 _ 0 (-1) 0 (Nat.lt_succ_self _) (by rw [sumZ]; omega) (by omega) (by omega) (by intro r hr; omega)
          intro fu
          induction fu with
          | zero => intro k2 v10 v12 hm; exact absurd hm (Nat.not_lt_zero _)
          | succ fu ih103 =>
            intro k2 v10 v12 hm103 e10 e12 hi0 hno
            subst e10
            subst e12
            have hsk := hsb k2 (by omega)
            have hwk := fun z => wpl_b (p := p) hS hO (r := k2) z
            refine wp_iload G 10 dX4_drawn_103 rfl ?_
            refine wp_iload G 7 dX4_drawn_105 rfl ?_
            refine wp_icmp_ge G dX4_drawn_107 (by omega) (by omega) (fun kq15 => ?_) (fun kq15 => ?_)
            · skip
              refine wp_bipush G dX4_drawn_172 (by decide) ?_
              exact wp_ireturn G hr dX4_drawn_174 ⟨by rw [srch_no p (swl_no hS hO (by omega) hno (by omega))], rfl, by rfl⟩
            · skip
              refine wp_lload G 9 dX4_drawn_110 rfl ?_
              refine wp_lconst (z := 0) G dX4_drawn_112 (by decide) ?_
              refine wp_lcmp G (by omega) (by omega) dX4_drawn_113 ?_
              refine wp_if_lt G dX4_drawn_114 (cmpZ_r _ _) (fun kq16 => ?_) (fun kq16 => ?_)
              · have kq16 : ((Int.tmod (mvF (fun r => cnd q (-1) b (o r)) s (p + 1)) (calm + sumZ (fun r => ifZ (cnd q (-1) b (o r)) (wpl pr fa sp q o p r) 0) p) - calm) - sumZ (fun r => ifZ (cnd q (-1) b (o r)) (wpl pr fa sp q o p r) 0) k2) < 0 := cmpZ_lt.mp kq16
                refine wp_bipush G dX4_drawn_172 (by decide) ?_
                exact wp_ireturn G hr dX4_drawn_174 ⟨by rw [srch_no p (swl_no hS hO (by omega) hno (by omega))], rfl, by rfl⟩
              · have kq16 : 0 ≤ ((Int.tmod (mvF (fun r => cnd q (-1) b (o r)) s (p + 1)) (calm + sumZ (fun r => ifZ (cnd q (-1) b (o r)) (wpl pr fa sp q o p r) 0) p) - calm) - sumZ (fun r => ifZ (cnd q (-1) b (o r)) (wpl pr fa sp q o p r) 0) k2) := (Int.not_lt.mp (fun z => absurd (cmpZ_lt.mpr z) (Int.not_lt.mpr kq16)))
                refine wp_aload_n G 1 dX4_drawn_117 rfl ?_
                refine wp_get G 8 cOk5 fX4_70 dX4_drawn_118 h2 rfl ?_
                refine wp_iload G 10 dX4_drawn_121 rfl ?_
                refine wp_iald (j := k2) G dX4_drawn_123 h10 rfl (by omega) (by decide) ?_
                have rrq3 := hO.o k2 (by omega)
                refine wp_istore (lv' := [(13, zI ((o k2 : Nat) : Int)), (0, zR 36), (1, zR 2), (2, zI s), (3, zI ((o p : Nat) : Int)), (4, zI b), (5, zI calm), (6, zJ (mvF (fun r => cnd q (-1) b (o r)) s (p + 1))), (8, zI ((p : Nat) : Int)), (9, zI (calm + sumZ (fun r => ifZ (cnd q (-1) b (o r)) (wpl pr fa sp q o p r) 0) p)), (10, zJ ((Int.tmod (mvF (fun r => cnd q (-1) b (o r)) s (p + 1)) (calm + sumZ (fun r => ifZ (cnd q (-1) b (o r)) (wpl pr fa sp q o p r) 0) p) - calm) - sumZ (fun r => ifZ (cnd q (-1) b (o r)) (wpl pr fa sp q o p r) 0) k2)), (12, zI ((k2 : Nat) : Int))]) G dX4_drawn_124 (by decide) rfl ?_
                have hwk2 := hwk (by omega)
                refine wp_lload G 10 dX4_drawn_126 rfl ?_
                refine wp_aload_n G 2 dX4_drawn_128 rfl ?_
                refine wp_iload G 0 dX4_drawn_129 rfl ?_
                refine wp_iconst G dX4_drawn_131 ?_
                refine wp_iload G 5 dX4_drawn_132 rfl ?_
                refine wp_cVE (b := 2) (ci := 5) (as := [zI ((o k2 : Nat) : Int), zI (-1), zI b]) (rest := [zJ ((Int.tmod (mvF (fun r => cnd q (-1) b (o r)) s (p + 1)) (calm + sumZ (fun r => ifZ (cnd q (-1) b (o r)) (wpl pr fa sp q o p r) 0) p) - calm) - sumZ (fun r => ifZ (cnd q (-1) b (o r)) (wpl pr fa sp q o p r) 0) k2)]) (hp2 := (nx, h, [])) G mX6_isCounted lX4_59 iX6_isCounted eX6_isCounted ⟨_, rfl, rfl⟩ dX4_drawn_134 h2 rfl rfl (Nat.le_of_ble_eq_true rfl) (rmx_ok hR (by decide) (by decide) (by decide) (by decide)) (t_X6_isCounted (nx := nx) (j := (o k2)) (a := (-1)) (b := b) hQ hO (hO.o _ (by omega)) (by omega) ri_b) rfl ?_
                refine wp_ifeq_bt G dX4_drawn_137 (fun kq17 => ?_) (fun kq17 => ?_)
                · skip
                  refine wp_lconst (z := 0) G dX4_drawn_152 (by decide) ?_
                  refine wp_lsub G dX4_drawn_153 ?_
                  refine wp_lstore (lv' := [(10, zJ (((Int.tmod (mvF (fun r => cnd q (-1) b (o r)) s (p + 1)) (calm + sumZ (fun r => ifZ (cnd q (-1) b (o r)) (wpl pr fa sp q o p r) 0) p) - calm) - sumZ (fun r => ifZ (cnd q (-1) b (o r)) (wpl pr fa sp q o p r) 0) k2) - 0)), (13, zI ((o k2 : Nat) : Int)), (0, zR 36), (1, zR 2), (2, zI s), (3, zI ((o p : Nat) : Int)), (4, zI b), (5, zI calm), (6, zJ (mvF (fun r => cnd q (-1) b (o r)) s (p + 1))), (8, zI ((p : Nat) : Int)), (9, zI (calm + sumZ (fun r => ifZ (cnd q (-1) b (o r)) (wpl pr fa sp q o p r) 0) p)), (12, zI ((k2 : Nat) : Int))]) G dX4_drawn_154 (by decide) rfl ?_
                  refine wp_lload G 0 dX4_drawn_156 rfl ?_
                  refine wp_lconst (z := 0) G dX4_drawn_158 (by decide) ?_
                  refine wp_lcmp G (by omega) (by omega) dX4_drawn_159 ?_
                  refine wp_if_ge G dX4_drawn_160 (cmpZ_r _ _) (fun kq18 => ?_) (fun kq18 => ?_)
                  · have kq18 : 0 ≤ (((Int.tmod (mvF (fun r => cnd q (-1) b (o r)) s (p + 1)) (calm + sumZ (fun r => ifZ (cnd q (-1) b (o r)) (wpl pr fa sp q o p r) 0) p) - calm) - sumZ (fun r => ifZ (cnd q (-1) b (o r)) (wpl pr fa sp q o p r) 0) k2) - 0) := Int.not_lt.mp (fun z => absurd (cmpZ_lt.mpr z) (Int.not_lt.mpr kq18))
                    refine wp_iinc (lv' := [(12, zI (((k2 : Nat) : Int) + 1)), (10, zJ (((Int.tmod (mvF (fun r => cnd q (-1) b (o r)) s (p + 1)) (calm + sumZ (fun r => ifZ (cnd q (-1) b (o r)) (wpl pr fa sp q o p r) 0) p) - calm) - sumZ (fun r => ifZ (cnd q (-1) b (o r)) (wpl pr fa sp q o p r) 0) k2) - 0)), (13, zI ((o k2 : Nat) : Int)), (0, zR 36), (1, zR 2), (2, zI s), (3, zI ((o p : Nat) : Int)), (4, zI b), (5, zI calm), (6, zJ (mvF (fun r => cnd q (-1) b (o r)) s (p + 1))), (8, zI ((p : Nat) : Int)), (9, zI (calm + sumZ (fun r => ifZ (cnd q (-1) b (o r)) (wpl pr fa sp q o p r) 0) p))]) G 11 dX4_drawn_166 rfl (by decide) rfl ?_
                    refine wp_goto G dX4_drawn_169 ?_
                    refine wp_lv [3, 4, 5, 6, 7, 8, 9, 10, 11, 1, 0] rfl ?_
                    exact ih103 (k2 + 1) (((Int.tmod (mvF (fun r => cnd q (-1) b (o r)) s (p + 1)) (calm + sumZ (fun r => ifZ (cnd q (-1) b (o r)) (wpl pr fa sp q o p r) 0) p) - calm) - sumZ (fun r => ifZ (cnd q (-1) b (o r)) (wpl pr fa sp q o p r) 0) k2) - 0) (((k2 : Nat) : Int) + 1) (by omega) (by rw [sumZ]; first | (rw [ifZ_y (by assumption)]; omega) | (rw [ifZ_n (by assumption)]; omega)) (by omega) (by omega) (by intro r hr; rcases Nat.lt_succ_iff_lt_or_eq.mp hr with e | e; exact hno r e; subst e; intro z; have z2 := z.2; rw [sumZ] at z2; first | (rw [ifZ_y (by assumption)] at z2; omega) | (rw [ifZ_n (by assumption)] at z2; omega))
                  · have kq18 : (((Int.tmod (mvF (fun r => cnd q (-1) b (o r)) s (p + 1)) (calm + sumZ (fun r => ifZ (cnd q (-1) b (o r)) (wpl pr fa sp q o p r) 0) p) - calm) - sumZ (fun r => ifZ (cnd q (-1) b (o r)) (wpl pr fa sp q o p r) 0) k2) - 0) < 0 := cmpZ_lt.mp kq18
                    refine wp_iload G 1 dX4_drawn_163 rfl ?_
                    exact wp_ireturn G hr dX4_drawn_165 ⟨by rw [srch_at (v := fun r => ((o r : Nat) : Int)) hno (by rw [sumZ]; first | (rw [ifZ_y (by assumption)]; omega) | (rw [ifZ_n (by assumption)]; omega)) (Int.natCast_nonneg _) p (by omega)], rfl, by rfl⟩
                · skip
                  refine wp_aload_n G 1 dX4_drawn_140 rfl ?_
                  refine wp_aload_n G 2 dX4_drawn_141 rfl ?_
                  refine wp_iload_n G 4 dX4_drawn_142 rfl ?_
                  refine wp_iload G 0 dX4_drawn_143 rfl ?_
                  refine wp_cVE (b := 36) (ci := 4) (as := [zR 2, zI ((o p : Nat) : Int), zI ((o k2 : Nat) : Int)]) (rest := [zJ ((Int.tmod (mvF (fun r => cnd q (-1) b (o r)) s (p + 1)) (calm + sumZ (fun r => ifZ (cnd q (-1) b (o r)) (wpl pr fa sp q o p r) 0) p) - calm) - sumZ (fun r => ifZ (cnd q (-1) b (o r)) (wpl pr fa sp q o p r) 0) k2)]) (hp2 := (nx, h, [])) G mX4_weight lX4_66 iX4_weight eX4_weight ⟨_, rfl, rfl⟩ dX4_drawn_145 h36 rfl rfl (Nat.le_of_ble_eq_true rfl) (rmx_ok hR (by decide) (by decide) (by decide) (by decide)) (t_X4_weight (nx := nx) (p := p) (r := k2) hQ hO hM hS hp (by omega)) rfl ?_
                  refine wp_i2l G (by omega) dX4_drawn_148 ?_
                  refine wp_goto G dX4_drawn_149 ?_
                  refine wp_lsub G dX4_drawn_153 ?_
                  refine wp_lstore (lv' := [(10, zJ (((Int.tmod (mvF (fun r => cnd q (-1) b (o r)) s (p + 1)) (calm + sumZ (fun r => ifZ (cnd q (-1) b (o r)) (wpl pr fa sp q o p r) 0) p) - calm) - sumZ (fun r => ifZ (cnd q (-1) b (o r)) (wpl pr fa sp q o p r) 0) k2) - wpl pr fa sp q o p k2)), (13, zI ((o k2 : Nat) : Int)), (0, zR 36), (1, zR 2), (2, zI s), (3, zI ((o p : Nat) : Int)), (4, zI b), (5, zI calm), (6, zJ (mvF (fun r => cnd q (-1) b (o r)) s (p + 1))), (8, zI ((p : Nat) : Int)), (9, zI (calm + sumZ (fun r => ifZ (cnd q (-1) b (o r)) (wpl pr fa sp q o p r) 0) p)), (12, zI ((k2 : Nat) : Int))]) G dX4_drawn_154 (by decide) rfl ?_
                  refine wp_lload G 0 dX4_drawn_156 rfl ?_
                  refine wp_lconst (z := 0) G dX4_drawn_158 (by decide) ?_
                  refine wp_lcmp G (by omega) (by omega) dX4_drawn_159 ?_
                  refine wp_if_ge G dX4_drawn_160 (cmpZ_r _ _) (fun kq19 => ?_) (fun kq19 => ?_)
                  · have kq19 : 0 ≤ (((Int.tmod (mvF (fun r => cnd q (-1) b (o r)) s (p + 1)) (calm + sumZ (fun r => ifZ (cnd q (-1) b (o r)) (wpl pr fa sp q o p r) 0) p) - calm) - sumZ (fun r => ifZ (cnd q (-1) b (o r)) (wpl pr fa sp q o p r) 0) k2) - wpl pr fa sp q o p k2) := Int.not_lt.mp (fun z => absurd (cmpZ_lt.mpr z) (Int.not_lt.mpr kq19))
                    refine wp_iinc (lv' := [(12, zI (((k2 : Nat) : Int) + 1)), (10, zJ (((Int.tmod (mvF (fun r => cnd q (-1) b (o r)) s (p + 1)) (calm + sumZ (fun r => ifZ (cnd q (-1) b (o r)) (wpl pr fa sp q o p r) 0) p) - calm) - sumZ (fun r => ifZ (cnd q (-1) b (o r)) (wpl pr fa sp q o p r) 0) k2) - wpl pr fa sp q o p k2)), (13, zI ((o k2 : Nat) : Int)), (0, zR 36), (1, zR 2), (2, zI s), (3, zI ((o p : Nat) : Int)), (4, zI b), (5, zI calm), (6, zJ (mvF (fun r => cnd q (-1) b (o r)) s (p + 1))), (8, zI ((p : Nat) : Int)), (9, zI (calm + sumZ (fun r => ifZ (cnd q (-1) b (o r)) (wpl pr fa sp q o p r) 0) p))]) G 11 dX4_drawn_166 rfl (by decide) rfl ?_
                    refine wp_goto G dX4_drawn_169 ?_
                    refine wp_lv [3, 4, 5, 6, 7, 8, 9, 10, 11, 1, 0] rfl ?_
                    exact ih103 (k2 + 1) (((Int.tmod (mvF (fun r => cnd q (-1) b (o r)) s (p + 1)) (calm + sumZ (fun r => ifZ (cnd q (-1) b (o r)) (wpl pr fa sp q o p r) 0) p) - calm) - sumZ (fun r => ifZ (cnd q (-1) b (o r)) (wpl pr fa sp q o p r) 0) k2) - wpl pr fa sp q o p k2) (((k2 : Nat) : Int) + 1) (by omega) (by rw [sumZ]; first | (rw [ifZ_y (by assumption)]; omega) | (rw [ifZ_n (by assumption)]; omega)) (by omega) (by omega) (by intro r hr; rcases Nat.lt_succ_iff_lt_or_eq.mp hr with e | e; exact hno r e; subst e; intro z; have z2 := z.2; rw [sumZ] at z2; first | (rw [ifZ_y (by assumption)] at z2; omega) | (rw [ifZ_n (by assumption)] at z2; omega))
                  · have kq19 : (((Int.tmod (mvF (fun r => cnd q (-1) b (o r)) s (p + 1)) (calm + sumZ (fun r => ifZ (cnd q (-1) b (o r)) (wpl pr fa sp q o p r) 0) p) - calm) - sumZ (fun r => ifZ (cnd q (-1) b (o r)) (wpl pr fa sp q o p r) 0) k2) - wpl pr fa sp q o p k2) < 0 := cmpZ_lt.mp kq19
                    refine wp_iload G 1 dX4_drawn_163 rfl ?_
                    exact wp_ireturn G hr dX4_drawn_165 ⟨by rw [srch_at (v := fun r => ((o r : Nat) : Int)) hno (by rw [sumZ]; first | (rw [ifZ_y (by assumption)]; omega) | (rw [ifZ_n (by assumption)]; omega)) (Int.natCast_nonneg _) p (by omega)], rfl, by rfl⟩
        · skip
          refine wp_lload G 7 dX4_drawn_82 rfl ?_
          refine wp_iload G 0 dX4_drawn_84 rfl ?_
          refine wp_i2l G (by omega) dX4_drawn_86 ?_
          refine wp_lrem G (by omega) (by omega) (by omega) dX4_drawn_87 ?_
          refine wp_iload G 6 dX4_drawn_88 rfl ?_
          refine wp_i2l G (by omega) dX4_drawn_90 ?_
          refine wp_lsub G dX4_drawn_91 ?_
          refine wp_goto G dX4_drawn_92 ?_
          refine wp_lstore (lv' := [(10, zJ ((Int.tmod (mvF (fun r => cnd q (-1) b (o r)) s (p + 1)) (calm + sumZ (fun r => ifZ (cnd q (-1) b (o r)) (wpl pr fa sp q o p r) 0) p)) - calm)), (9, zI (calm + sumZ (fun r => ifZ (cnd q (-1) b (o r)) (wpl pr fa sp q o p r) 0) p)), (0, zR 36), (1, zR 2), (2, zI s), (3, zI ((o p : Nat) : Int)), (4, zI b), (5, zI calm), (6, zJ (mvF (fun r => cnd q (-1) b (o r)) s (p + 1))), (8, zI ((p : Nat) : Int))]) G dX4_drawn_98 (by decide) rfl ?_
          refine wp_iconst G dX4_drawn_100 ?_
          refine wp_istore (lv' := [(12, zI 0), (10, zJ ((Int.tmod (mvF (fun r => cnd q (-1) b (o r)) s (p + 1)) (calm + sumZ (fun r => ifZ (cnd q (-1) b (o r)) (wpl pr fa sp q o p r) 0) p)) - calm)), (9, zI (calm + sumZ (fun r => ifZ (cnd q (-1) b (o r)) (wpl pr fa sp q o p r) 0) p)), (0, zR 36), (1, zR 2), (2, zI s), (3, zI ((o p : Nat) : Int)), (4, zI b), (5, zI calm), (6, zJ (mvF (fun r => cnd q (-1) b (o r)) s (p + 1))), (8, zI ((p : Nat) : Int))]) G dX4_drawn_101 (by decide) rfl ?_
          refine wp_lv [3, 4, 5, 6, 7, 8, 9, 10, 2, 1, 0] rfl ?_
          suffices lp103 : ∀ (fu : Nat) (k2 : Nat) (v10 : Int) (v12 : Int), p - k2 < fu → (v10 = ((Int.tmod (mvF (fun r => cnd q (-1) b (o r)) s (p + 1)) (calm + sumZ (fun r => ifZ (cnd q (-1) b (o r)) (wpl pr fa sp q o p r) 0) p) - calm) - sumZ (fun r => ifZ (cnd q (-1) b (o r)) (wpl pr fa sp q o p r) 0) k2)) → (v12 = ((k2 : Nat) : Int)) → (k2 ≤ p) → (∀ r, r < k2 → ¬ (0 ≤ (Int.tmod (mvF (fun r => cnd q (-1) b (o r)) s (p + 1)) (calm + sumZ (fun r => ifZ (cnd q (-1) b (o r)) (wpl pr fa sp q o p r) 0) p) - calm) - sumZ (fun r => ifZ (cnd q (-1) b (o r)) (wpl pr fa sp q o p r) 0) r ∧ (Int.tmod (mvF (fun r => cnd q (-1) b (o r)) s (p + 1)) (calm + sumZ (fun r => ifZ (cnd q (-1) b (o r)) (wpl pr fa sp q o p r) 0) p) - calm) - sumZ (fun r => ifZ (cnd q (-1) b (o r)) (wpl pr fa sp q o p r) 0) (r + 1) < 0)) → Wp K 14 (Mx K h (Rt (zI (srch (fun r => 0 ≤ (Int.tmod (mvF (fun r => cnd q (-1) b (o r)) s (p + 1)) (calm + sumZ (fun r => ifZ (cnd q (-1) b (o r)) (wpl pr fa sp q o p r) 0) p) - calm) - sumZ (fun r => ifZ (cnd q (-1) b (o r)) (wpl pr fa sp q o p r) 0) r ∧ (Int.tmod (mvF (fun r => cnd q (-1) b (o r)) s (p + 1)) (calm + sumZ (fun r => ifZ (cnd q (-1) b (o r)) (wpl pr fa sp q o p r) 0) p) - calm) - sumZ (fun r => ifZ (cnd q (-1) b (o r)) (wpl pr fa sp q o p r) 0) (r + 1) < 0) (fun r => ((o r : Nat) : Int)) p)) nx []) (0, 0)) (0, 0) 103 [(0, zR 36), (1, zR 2), (2, zI s), (3, zI ((o p : Nat) : Int)), (4, zI b), (5, zI calm), (6, zJ (mvF (fun r => cnd q (-1) b (o r)) s (p + 1))), (8, zI ((p : Nat) : Int)), (9, zI (calm + sumZ (fun r => ifZ (cnd q (-1) b (o r)) (wpl pr fa sp q o p r) 0) p)), (10, zJ v10), (12, zI v12)] [] (nx, h, []) from lp103 _ 0 ((Int.tmod (mvF (fun r => cnd q (-1) b (o r)) s (p + 1)) (calm + sumZ (fun r => ifZ (cnd q (-1) b (o r)) (wpl pr fa sp q o p r) 0) p)) - calm) 0 (Nat.lt_succ_self _) (by rw [sumZ]; omega) (by omega) (by omega) (by intro r hr; omega)
          intro fu
          induction fu with
          | zero => intro k2 v10 v12 hm; exact absurd hm (Nat.not_lt_zero _)
          | succ fu ih103 =>
            intro k2 v10 v12 hm103 e10 e12 hi0 hno
            subst e10
            subst e12
            have hsk := hsb k2 (by omega)
            have hwk := fun z => wpl_b (p := p) hS hO (r := k2) z
            refine wp_iload G 10 dX4_drawn_103 rfl ?_
            refine wp_iload G 7 dX4_drawn_105 rfl ?_
            refine wp_icmp_ge G dX4_drawn_107 (by omega) (by omega) (fun kq20 => ?_) (fun kq20 => ?_)
            · skip
              refine wp_bipush G dX4_drawn_172 (by decide) ?_
              exact wp_ireturn G hr dX4_drawn_174 ⟨by rw [srch_no p (swl_no hS hO (by omega) hno (by omega))], rfl, by rfl⟩
            · skip
              refine wp_lload G 9 dX4_drawn_110 rfl ?_
              refine wp_lconst (z := 0) G dX4_drawn_112 (by decide) ?_
              refine wp_lcmp G (by omega) (by omega) dX4_drawn_113 ?_
              refine wp_if_lt G dX4_drawn_114 (cmpZ_r _ _) (fun kq21 => ?_) (fun kq21 => ?_)
              · have kq21 : ((Int.tmod (mvF (fun r => cnd q (-1) b (o r)) s (p + 1)) (calm + sumZ (fun r => ifZ (cnd q (-1) b (o r)) (wpl pr fa sp q o p r) 0) p) - calm) - sumZ (fun r => ifZ (cnd q (-1) b (o r)) (wpl pr fa sp q o p r) 0) k2) < 0 := cmpZ_lt.mp kq21
                refine wp_bipush G dX4_drawn_172 (by decide) ?_
                exact wp_ireturn G hr dX4_drawn_174 ⟨by rw [srch_no p (swl_no hS hO (by omega) hno (by omega))], rfl, by rfl⟩
              · have kq21 : 0 ≤ ((Int.tmod (mvF (fun r => cnd q (-1) b (o r)) s (p + 1)) (calm + sumZ (fun r => ifZ (cnd q (-1) b (o r)) (wpl pr fa sp q o p r) 0) p) - calm) - sumZ (fun r => ifZ (cnd q (-1) b (o r)) (wpl pr fa sp q o p r) 0) k2) := (Int.not_lt.mp (fun z => absurd (cmpZ_lt.mpr z) (Int.not_lt.mpr kq21)))
                refine wp_aload_n G 1 dX4_drawn_117 rfl ?_
                refine wp_get G 8 cOk5 fX4_70 dX4_drawn_118 h2 rfl ?_
                refine wp_iload G 10 dX4_drawn_121 rfl ?_
                refine wp_iald (j := k2) G dX4_drawn_123 h10 rfl (by omega) (by decide) ?_
                have rrq4 := hO.o k2 (by omega)
                refine wp_istore (lv' := [(13, zI ((o k2 : Nat) : Int)), (0, zR 36), (1, zR 2), (2, zI s), (3, zI ((o p : Nat) : Int)), (4, zI b), (5, zI calm), (6, zJ (mvF (fun r => cnd q (-1) b (o r)) s (p + 1))), (8, zI ((p : Nat) : Int)), (9, zI (calm + sumZ (fun r => ifZ (cnd q (-1) b (o r)) (wpl pr fa sp q o p r) 0) p)), (10, zJ ((Int.tmod (mvF (fun r => cnd q (-1) b (o r)) s (p + 1)) (calm + sumZ (fun r => ifZ (cnd q (-1) b (o r)) (wpl pr fa sp q o p r) 0) p) - calm) - sumZ (fun r => ifZ (cnd q (-1) b (o r)) (wpl pr fa sp q o p r) 0) k2)), (12, zI ((k2 : Nat) : Int))]) G dX4_drawn_124 (by decide) rfl ?_
                have hwk2 := hwk (by omega)
                refine wp_lload G 10 dX4_drawn_126 rfl ?_
                refine wp_aload_n G 2 dX4_drawn_128 rfl ?_
                refine wp_iload G 0 dX4_drawn_129 rfl ?_
                refine wp_iconst G dX4_drawn_131 ?_
                refine wp_iload G 5 dX4_drawn_132 rfl ?_
                refine wp_cVE (b := 2) (ci := 5) (as := [zI ((o k2 : Nat) : Int), zI (-1), zI b]) (rest := [zJ ((Int.tmod (mvF (fun r => cnd q (-1) b (o r)) s (p + 1)) (calm + sumZ (fun r => ifZ (cnd q (-1) b (o r)) (wpl pr fa sp q o p r) 0) p) - calm) - sumZ (fun r => ifZ (cnd q (-1) b (o r)) (wpl pr fa sp q o p r) 0) k2)]) (hp2 := (nx, h, [])) G mX6_isCounted lX4_59 iX6_isCounted eX6_isCounted ⟨_, rfl, rfl⟩ dX4_drawn_134 h2 rfl rfl (Nat.le_of_ble_eq_true rfl) (rmx_ok hR (by decide) (by decide) (by decide) (by decide)) (t_X6_isCounted (nx := nx) (j := (o k2)) (a := (-1)) (b := b) hQ hO (hO.o _ (by omega)) (by omega) ri_b) rfl ?_
                refine wp_ifeq_bt G dX4_drawn_137 (fun kq22 => ?_) (fun kq22 => ?_)
                · skip
                  refine wp_lconst (z := 0) G dX4_drawn_152 (by decide) ?_
                  refine wp_lsub G dX4_drawn_153 ?_
                  refine wp_lstore (lv' := [(10, zJ (((Int.tmod (mvF (fun r => cnd q (-1) b (o r)) s (p + 1)) (calm + sumZ (fun r => ifZ (cnd q (-1) b (o r)) (wpl pr fa sp q o p r) 0) p) - calm) - sumZ (fun r => ifZ (cnd q (-1) b (o r)) (wpl pr fa sp q o p r) 0) k2) - 0)), (13, zI ((o k2 : Nat) : Int)), (0, zR 36), (1, zR 2), (2, zI s), (3, zI ((o p : Nat) : Int)), (4, zI b), (5, zI calm), (6, zJ (mvF (fun r => cnd q (-1) b (o r)) s (p + 1))), (8, zI ((p : Nat) : Int)), (9, zI (calm + sumZ (fun r => ifZ (cnd q (-1) b (o r)) (wpl pr fa sp q o p r) 0) p)), (12, zI ((k2 : Nat) : Int))]) G dX4_drawn_154 (by decide) rfl ?_
                  refine wp_lload G 0 dX4_drawn_156 rfl ?_
                  refine wp_lconst (z := 0) G dX4_drawn_158 (by decide) ?_
                  refine wp_lcmp G (by omega) (by omega) dX4_drawn_159 ?_
                  refine wp_if_ge G dX4_drawn_160 (cmpZ_r _ _) (fun kq23 => ?_) (fun kq23 => ?_)
                  · have kq23 : 0 ≤ (((Int.tmod (mvF (fun r => cnd q (-1) b (o r)) s (p + 1)) (calm + sumZ (fun r => ifZ (cnd q (-1) b (o r)) (wpl pr fa sp q o p r) 0) p) - calm) - sumZ (fun r => ifZ (cnd q (-1) b (o r)) (wpl pr fa sp q o p r) 0) k2) - 0) := Int.not_lt.mp (fun z => absurd (cmpZ_lt.mpr z) (Int.not_lt.mpr kq23))
                    refine wp_iinc (lv' := [(12, zI (((k2 : Nat) : Int) + 1)), (10, zJ (((Int.tmod (mvF (fun r => cnd q (-1) b (o r)) s (p + 1)) (calm + sumZ (fun r => ifZ (cnd q (-1) b (o r)) (wpl pr fa sp q o p r) 0) p) - calm) - sumZ (fun r => ifZ (cnd q (-1) b (o r)) (wpl pr fa sp q o p r) 0) k2) - 0)), (13, zI ((o k2 : Nat) : Int)), (0, zR 36), (1, zR 2), (2, zI s), (3, zI ((o p : Nat) : Int)), (4, zI b), (5, zI calm), (6, zJ (mvF (fun r => cnd q (-1) b (o r)) s (p + 1))), (8, zI ((p : Nat) : Int)), (9, zI (calm + sumZ (fun r => ifZ (cnd q (-1) b (o r)) (wpl pr fa sp q o p r) 0) p))]) G 11 dX4_drawn_166 rfl (by decide) rfl ?_
                    refine wp_goto G dX4_drawn_169 ?_
                    refine wp_lv [3, 4, 5, 6, 7, 8, 9, 10, 11, 1, 0] rfl ?_
                    exact ih103 (k2 + 1) (((Int.tmod (mvF (fun r => cnd q (-1) b (o r)) s (p + 1)) (calm + sumZ (fun r => ifZ (cnd q (-1) b (o r)) (wpl pr fa sp q o p r) 0) p) - calm) - sumZ (fun r => ifZ (cnd q (-1) b (o r)) (wpl pr fa sp q o p r) 0) k2) - 0) (((k2 : Nat) : Int) + 1) (by omega) (by rw [sumZ]; first | (rw [ifZ_y (by assumption)]; omega) | (rw [ifZ_n (by assumption)]; omega)) (by omega) (by omega) (by intro r hr; rcases Nat.lt_succ_iff_lt_or_eq.mp hr with e | e; exact hno r e; subst e; intro z; have z2 := z.2; rw [sumZ] at z2; first | (rw [ifZ_y (by assumption)] at z2; omega) | (rw [ifZ_n (by assumption)] at z2; omega))
                  · have kq23 : (((Int.tmod (mvF (fun r => cnd q (-1) b (o r)) s (p + 1)) (calm + sumZ (fun r => ifZ (cnd q (-1) b (o r)) (wpl pr fa sp q o p r) 0) p) - calm) - sumZ (fun r => ifZ (cnd q (-1) b (o r)) (wpl pr fa sp q o p r) 0) k2) - 0) < 0 := cmpZ_lt.mp kq23
                    refine wp_iload G 1 dX4_drawn_163 rfl ?_
                    exact wp_ireturn G hr dX4_drawn_165 ⟨by rw [srch_at (v := fun r => ((o r : Nat) : Int)) hno (by rw [sumZ]; first | (rw [ifZ_y (by assumption)]; omega) | (rw [ifZ_n (by assumption)]; omega)) (Int.natCast_nonneg _) p (by omega)], rfl, by rfl⟩
                · skip
                  refine wp_aload_n G 1 dX4_drawn_140 rfl ?_
                  refine wp_aload_n G 2 dX4_drawn_141 rfl ?_
                  refine wp_iload_n G 4 dX4_drawn_142 rfl ?_
                  refine wp_iload G 0 dX4_drawn_143 rfl ?_
                  refine wp_cVE (b := 36) (ci := 4) (as := [zR 2, zI ((o p : Nat) : Int), zI ((o k2 : Nat) : Int)]) (rest := [zJ ((Int.tmod (mvF (fun r => cnd q (-1) b (o r)) s (p + 1)) (calm + sumZ (fun r => ifZ (cnd q (-1) b (o r)) (wpl pr fa sp q o p r) 0) p) - calm) - sumZ (fun r => ifZ (cnd q (-1) b (o r)) (wpl pr fa sp q o p r) 0) k2)]) (hp2 := (nx, h, [])) G mX4_weight lX4_66 iX4_weight eX4_weight ⟨_, rfl, rfl⟩ dX4_drawn_145 h36 rfl rfl (Nat.le_of_ble_eq_true rfl) (rmx_ok hR (by decide) (by decide) (by decide) (by decide)) (t_X4_weight (nx := nx) (p := p) (r := k2) hQ hO hM hS hp (by omega)) rfl ?_
                  refine wp_i2l G (by omega) dX4_drawn_148 ?_
                  refine wp_goto G dX4_drawn_149 ?_
                  refine wp_lsub G dX4_drawn_153 ?_
                  refine wp_lstore (lv' := [(10, zJ (((Int.tmod (mvF (fun r => cnd q (-1) b (o r)) s (p + 1)) (calm + sumZ (fun r => ifZ (cnd q (-1) b (o r)) (wpl pr fa sp q o p r) 0) p) - calm) - sumZ (fun r => ifZ (cnd q (-1) b (o r)) (wpl pr fa sp q o p r) 0) k2) - wpl pr fa sp q o p k2)), (13, zI ((o k2 : Nat) : Int)), (0, zR 36), (1, zR 2), (2, zI s), (3, zI ((o p : Nat) : Int)), (4, zI b), (5, zI calm), (6, zJ (mvF (fun r => cnd q (-1) b (o r)) s (p + 1))), (8, zI ((p : Nat) : Int)), (9, zI (calm + sumZ (fun r => ifZ (cnd q (-1) b (o r)) (wpl pr fa sp q o p r) 0) p)), (12, zI ((k2 : Nat) : Int))]) G dX4_drawn_154 (by decide) rfl ?_
                  refine wp_lload G 0 dX4_drawn_156 rfl ?_
                  refine wp_lconst (z := 0) G dX4_drawn_158 (by decide) ?_
                  refine wp_lcmp G (by omega) (by omega) dX4_drawn_159 ?_
                  refine wp_if_ge G dX4_drawn_160 (cmpZ_r _ _) (fun kq24 => ?_) (fun kq24 => ?_)
                  · have kq24 : 0 ≤ (((Int.tmod (mvF (fun r => cnd q (-1) b (o r)) s (p + 1)) (calm + sumZ (fun r => ifZ (cnd q (-1) b (o r)) (wpl pr fa sp q o p r) 0) p) - calm) - sumZ (fun r => ifZ (cnd q (-1) b (o r)) (wpl pr fa sp q o p r) 0) k2) - wpl pr fa sp q o p k2) := Int.not_lt.mp (fun z => absurd (cmpZ_lt.mpr z) (Int.not_lt.mpr kq24))
                    refine wp_iinc (lv' := [(12, zI (((k2 : Nat) : Int) + 1)), (10, zJ (((Int.tmod (mvF (fun r => cnd q (-1) b (o r)) s (p + 1)) (calm + sumZ (fun r => ifZ (cnd q (-1) b (o r)) (wpl pr fa sp q o p r) 0) p) - calm) - sumZ (fun r => ifZ (cnd q (-1) b (o r)) (wpl pr fa sp q o p r) 0) k2) - wpl pr fa sp q o p k2)), (13, zI ((o k2 : Nat) : Int)), (0, zR 36), (1, zR 2), (2, zI s), (3, zI ((o p : Nat) : Int)), (4, zI b), (5, zI calm), (6, zJ (mvF (fun r => cnd q (-1) b (o r)) s (p + 1))), (8, zI ((p : Nat) : Int)), (9, zI (calm + sumZ (fun r => ifZ (cnd q (-1) b (o r)) (wpl pr fa sp q o p r) 0) p))]) G 11 dX4_drawn_166 rfl (by decide) rfl ?_
                    refine wp_goto G dX4_drawn_169 ?_
                    refine wp_lv [3, 4, 5, 6, 7, 8, 9, 10, 11, 1, 0] rfl ?_
                    exact ih103 (k2 + 1) (((Int.tmod (mvF (fun r => cnd q (-1) b (o r)) s (p + 1)) (calm + sumZ (fun r => ifZ (cnd q (-1) b (o r)) (wpl pr fa sp q o p r) 0) p) - calm) - sumZ (fun r => ifZ (cnd q (-1) b (o r)) (wpl pr fa sp q o p r) 0) k2) - wpl pr fa sp q o p k2) (((k2 : Nat) : Int) + 1) (by omega) (by rw [sumZ]; first | (rw [ifZ_y (by assumption)]; omega) | (rw [ifZ_n (by assumption)]; omega)) (by omega) (by omega) (by intro r hr; rcases Nat.lt_succ_iff_lt_or_eq.mp hr with e | e; exact hno r e; subst e; intro z; have z2 := z.2; rw [sumZ] at z2; first | (rw [ifZ_y (by assumption)] at z2; omega) | (rw [ifZ_n (by assumption)] at z2; omega))
                  · have kq24 : (((Int.tmod (mvF (fun r => cnd q (-1) b (o r)) s (p + 1)) (calm + sumZ (fun r => ifZ (cnd q (-1) b (o r)) (wpl pr fa sp q o p r) 0) p) - calm) - sumZ (fun r => ifZ (cnd q (-1) b (o r)) (wpl pr fa sp q o p r) 0) k2) - wpl pr fa sp q o p k2) < 0 := cmpZ_lt.mp kq24
                    refine wp_iload G 1 dX4_drawn_163 rfl ?_
                    exact wp_ireturn G hr dX4_drawn_165 ⟨by rw [srch_at (v := fun r => ((o r : Nat) : Int)) hno (by rw [sumZ]; first | (rw [ifZ_y (by assumption)]; omega) | (rw [ifZ_n (by assumption)]; omega)) (Int.natCast_nonneg _) p (by omega)], rfl, by rfl⟩
      · skip
        refine wp_aload_n G 1 dX4_drawn_30 rfl ?_
        refine wp_aload_n G 1 dX4_drawn_31 rfl ?_
        refine wp_get G 8 cOk5 fX4_70 dX4_drawn_32 h2 rfl ?_
        refine wp_iload G 8 dX4_drawn_35 rfl ?_
        refine wp_iald (j := k) G dX4_drawn_37 h10 rfl (by omega) (by decide) ?_
        have rrq5 := hO.o k (by omega)
        refine wp_iconst G dX4_drawn_38 ?_
        refine wp_iload G 4 dX4_drawn_39 rfl ?_
        refine wp_cVE (b := 2) (ci := 5) (as := [zI ((o k : Nat) : Int), zI (-1), zI b]) (rest := []) (hp2 := (nx, h, [])) G mX6_isCounted lX4_59 iX6_isCounted eX6_isCounted ⟨_, rfl, rfl⟩ dX4_drawn_41 h2 rfl rfl (Nat.le_of_ble_eq_true rfl) (rmx_ok hR (by decide) (by decide) (by decide) (by decide)) (t_X6_isCounted (nx := nx) (j := (o k)) (a := (-1)) (b := b) hQ hO (hO.o _ (by omega)) (by omega) ri_b) rfl ?_
        refine wp_ifeq_bt G dX4_drawn_44 (fun kq25 => ?_) (fun kq25 => ?_)
        · skip
          refine wp_iinc (lv' := [(9, zI (((k : Nat) : Int) + 1)), (0, zR 36), (1, zR 2), (2, zI s), (3, zI ((o p : Nat) : Int)), (4, zI b), (5, zI calm), (6, zJ (mvF (fun r => cnd q (-1) b (o r)) s k)), (8, zI ((p : Nat) : Int))]) G 8 dX4_drawn_59 rfl (by decide) rfl ?_
          refine wp_goto G dX4_drawn_62 ?_
          refine wp_lv [1, 2, 3, 4, 5, 6, 7, 8, 0] rfl ?_
          exact ih14 (k + 1) (mvF (fun r => cnd q (-1) b (o r)) s k) (((k : Nat) : Int) + 1) (by omega) (by rw [mvF]; first | (rw [ifZ_y (by assumption)]; exact Int.tmod_eq_emod_of_nonneg (by omega)) | (rw [ifZ_n (by assumption)])) (by omega) (by omega)
        · skip
          refine wp_lload G 6 dX4_drawn_47 rfl ?_
          refine wp_ldc2 (z := 16807) G kX4_84 dX4_drawn_49 ?_
          refine wp_lmul G dX4_drawn_52 ?_
          refine wp_ldc2 (z := 2147483647) G kX4_86 dX4_drawn_53 ?_
          refine wp_lrem G (by omega) (by omega) (by omega) dX4_drawn_56 ?_
          refine wp_lstore (lv' := [(6, zJ (Int.tmod (mvF (fun r => cnd q (-1) b (o r)) s k * 16807) 2147483647)), (0, zR 36), (1, zR 2), (2, zI s), (3, zI ((o p : Nat) : Int)), (4, zI b), (5, zI calm), (8, zI ((p : Nat) : Int)), (9, zI ((k : Nat) : Int))]) G dX4_drawn_57 (by decide) rfl ?_
          refine wp_iinc (lv' := [(9, zI (((k : Nat) : Int) + 1)), (6, zJ (Int.tmod (mvF (fun r => cnd q (-1) b (o r)) s k * 16807) 2147483647)), (0, zR 36), (1, zR 2), (2, zI s), (3, zI ((o p : Nat) : Int)), (4, zI b), (5, zI calm), (8, zI ((p : Nat) : Int))]) G 8 dX4_drawn_59 rfl (by decide) rfl ?_
          refine wp_goto G dX4_drawn_62 ?_
          refine wp_lv [2, 3, 4, 5, 6, 7, 1, 8, 0] rfl ?_
          exact ih14 (k + 1) (Int.tmod (mvF (fun r => cnd q (-1) b (o r)) s k * 16807) 2147483647) (((k : Nat) : Int) + 1) (by omega) (by rw [mvF]; first | (rw [ifZ_y (by assumption)]; exact Int.tmod_eq_emod_of_nonneg (by omega)) | (rw [ifZ_n (by assumption)])) (by omega) (by omega)

