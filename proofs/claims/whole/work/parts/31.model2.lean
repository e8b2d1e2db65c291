def isMt (h : Nat → Option PC) (sm : Nat → Int) (sl : Nat → Nat) (ri : Nat → Int) : Prop := h 80 = some (oA 0 336 sm) ∧ h 81 = some (oA 0 7 (fun f => ((sl f : Nat) : Int))) ∧ h 82 = some (oA 0 4 ri)
def isMg (h : Nat → Option PC) (hs : Nat → Nat → Int) (kd : Nat → Nat) (dm lw : Nat → Nat → Int) : Prop := h 83 = some (oA 0 12 (hs 0)) ∧ h 84 = some (oA 0 12 (hs 1)) ∧ h 85 = some (oA 0 12 (fun u => ((kd u : Nat) : Int))) ∧ h 86 = some (oA 0 12 (hs 2)) ∧ h 87 = some (oA 0 12 (hs 3)) ∧ h 88 = some (oA 0 40 (fun t => dm (t / 10) (t % 10))) ∧ h 89 = some (oA 0 12 (lw 0)) ∧ h 90 = some (oA 0 12 (lw 1)) ∧ h 91 = some (oA 0 12 (lw 2)) ∧ h 92 = some (oA 0 12 (lw 3))
theorem lb_e {hs : Nat → Nat → Int} {kd : Nat → Nat} {dm : Nat → Nat → Int} {s u k s2 : Nat} {x y g f : Int} (h1 : asK kd s u = k) (h2 : (shk hs u x y g f / 10).toNat = s2) : hs 2 u * dm k s2 / 100 = lsH hs dm u (asK kd s u) x y g f := by
  unfold lsH
  rw [h1, h2]
theorem hq_k {q : Nat → Nat → Int} {d m : Int} {k : Nat} (h : ∃ j, j < k ∧ q 1 j = d ∧ grt q m j) : ∃ j, j < k + 1 ∧ q 1 j = d ∧ grt q m j := by
  obtain ⟨j, h1, h2⟩ := h
  exact ⟨j, Nat.lt_succ_of_lt h1, h2⟩
theorem hq_n {q : Nat → Nat → Int} {d m : Int} {k : Nat} (h : ¬ ∃ j, j < k ∧ q 1 j = d ∧ grt q m j) (h2 : ¬ (q 1 k = d ∧ grt q m k)) : ¬ ∃ j, j < k + 1 ∧ q 1 j = d ∧ grt q m j := by
  rintro ⟨j, h3, h4⟩
  by_cases e : j = k
  · subst e; exact h2 h4
  · exact h ⟨j, by omega, h4⟩

set_option maxRecDepth 100000 in
set_option maxHeartbeats 4000000 in
theorem t_X10_markOf {nx : Nat} {h : Nat → Option PC} {k : Nat} (hk : k < 4) : Cx 0 (0, 0) yX10_markOf cX10_markOf 1 (some .int) [zI ((k : Nat) : Int)] nx h (Rt (zI (mrk k)) nx []) := by
  refine cx_of pnX10_markOf (Nat.le_of_ble_eq_true rfl) ?_
  intro K G hr hnm hR
  show Wp K 1 (Mx K h (Rt (zI (mrk k)) nx []) (0, 0)) (0, 0) 0 [(0, zI ((k : Nat) : Int))] [] (nx, h, [])
  refine wp_iload_n G 0 dX10_markOf_0 rfl ?_
  refine wp_if_ne G dX10_markOf_1 (by omega) (fun kq1 => ?_) (fun kq1 => ?_)
  · skip
    refine wp_iload_n G 0 dX10_markOf_9 rfl ?_
    refine wp_iconst G dX10_markOf_10 ?_
    refine wp_icmp_ne G dX10_markOf_11 (by omega) (by omega) (fun kq2 => ?_) (fun kq2 => ?_)
    · skip
      refine wp_iload_n G 0 dX10_markOf_19 rfl ?_
      refine wp_iconst G dX10_markOf_20 ?_
      refine wp_icmp_ne G dX10_markOf_21 (by omega) (by omega) (fun kq3 => ?_) (fun kq3 => ?_)
      · skip
        refine wp_bipush G dX10_markOf_29 (by decide) ?_
        exact wp_ireturn G hr dX10_markOf_31 ⟨by unfold mrk; first | (rw [if_pos (by omega)]; done) | (rw [if_neg (by omega), if_pos (by omega)]; done) | (rw [if_neg (by omega), if_neg (by omega), if_pos (by omega)]; done) | (rw [if_neg (by omega), if_neg (by omega), if_neg (by omega)]), rfl, by rfl⟩
      · skip
        refine wp_bipush G dX10_markOf_24 (by decide) ?_
        refine wp_goto G dX10_markOf_26 ?_
        exact wp_ireturn G hr dX10_markOf_31 ⟨by unfold mrk; first | (rw [if_pos (by omega)]; done) | (rw [if_neg (by omega), if_pos (by omega)]; done) | (rw [if_neg (by omega), if_neg (by omega), if_pos (by omega)]; done) | (rw [if_neg (by omega), if_neg (by omega), if_neg (by omega)]), rfl, by rfl⟩
    · skip
      refine wp_bipush G dX10_markOf_14 (by decide) ?_
      refine wp_goto G dX10_markOf_16 ?_
      exact wp_ireturn G hr dX10_markOf_31 ⟨by unfold mrk; first | (rw [if_pos (by omega)]; done) | (rw [if_neg (by omega), if_pos (by omega)]; done) | (rw [if_neg (by omega), if_neg (by omega), if_pos (by omega)]; done) | (rw [if_neg (by omega), if_neg (by omega), if_neg (by omega)]), rfl, by rfl⟩
  · skip
    refine wp_bipush G dX10_markOf_4 (by decide) ?_
    refine wp_goto G dX10_markOf_6 ?_
    exact wp_ireturn G hr dX10_markOf_31 ⟨by unfold mrk; first | (rw [if_pos (by omega)]; done) | (rw [if_neg (by omega), if_pos (by omega)]; done) | (rw [if_neg (by omega), if_neg (by omega), if_pos (by omega)]; done) | (rw [if_neg (by omega), if_neg (by omega), if_neg (by omega)]), rfl, by rfl⟩

set_option maxRecDepth 100000 in
set_option maxHeartbeats 4000000 in
theorem t_X10_fault {nx : Nat} {h : Nat → Option PC} {n : Nat} {q : Nat → Nat → Int} {o : Nat → Nat} {fc : Nat} {hn : Nat} {ln : Nat} {ma : Int} {mb : Int} {st : Nat → Int} {sm : Nat → Int} {sl : Nat → Nat} {ri : Nat → Int} {sg : Nat → Int} (hQ : isM h n q o fc hn ln ma mb st) (hO : okQ n q o) (hN : okN st) (hT : isMt h sm sl ri) (hsl : ∀ f, f < 7 → sl f ≤ 48) (hsm : ∀ i, i < sl 6 → sm (288 + i) = sg i) (hsg : ∀ i, i < sl 6 → 33 ≤ sg i ∧ sg i ≤ 126) : Cx 2 (0, 0) yX10_fault cX10_fault 5 (some .int) [zR 64] nx h (Rt (zI (fltZ sg (sl 6))) nx []) := by
  refine cx_of pnX10_fault (Nat.le_of_ble_eq_true rfl) ?_
  intro K G hr hnm hR
  obtain ⟨h64, h65, h66, h67, h68, h69, h70, h71, h72, h73⟩ := id hQ
  have hn40 := hO.1
  obtain ⟨hN0, hN1, hN2, hN3, hN4⟩ := id hN
  obtain ⟨h80, h81, h82⟩ := id hT
  have hsl6 := hsl 6 (by decide)
  show Wp K 5 (Mx K h (Rt (zI (fltZ sg (sl 6))) nx []) (0, 0)) (0, 0) 0 [(0, zR 64)] [] (nx, h, [])
  refine wp_iconst G dX10_fault_0 ?_
  refine wp_istore_n (lv' := [(1, zI 0), (0, zR 64)]) G dX10_fault_1 (by decide) rfl ?_
  refine wp_iconst G dX10_fault_2 ?_
  refine wp_istore_n (lv' := [(2, zI 0), (1, zI 0), (0, zR 64)]) G dX10_fault_3 (by decide) rfl ?_
  refine wp_iconst G dX10_fault_4 ?_
  refine wp_istore_n (lv' := [(3, zI 0), (2, zI 0), (1, zI 0), (0, zR 64)]) G dX10_fault_5 (by decide) rfl ?_
  refine wp_lv [3, 2, 1, 0] rfl ?_
  suffices lp6 : ∀ (fu : Nat) (k : Nat) (v1 : Int) (v2 : Int) (v3 : Int), sl 6 - k < fu → (v1 = (((fS sg k).1 : Nat) : Int)) → (v2 = (((fS sg k).2 : Nat) : Int)) → (v3 = ((k : Nat) : Int)) → (k ≤ sl 6) → (∀ r, r < k → ¬ sBad sg r) → Wp K 5 (Mx K h (Rt (zI (fltZ sg (sl 6))) nx []) (0, 0)) (0, 0) 6 [(0, zR 64), (1, zI v1), (2, zI v2), (3, zI v3)] [] (nx, h, []) from lp6 _ 0 0 0 0 (Nat.lt_succ_self _) (by rfl) (by rfl) (by omega) (by omega) (by intro r hr; omega)
  intro fu
  induction fu with
  | zero => intro k v1 v2 v3 hm; exact absurd hm (Nat.not_lt_zero _)
  | succ fu ih6 =>
    intro k v1 v2 v3 hm6 e1 e2 e3 hi0 hno
    subst e1
    subst e2
    subst e3
    have hf1 := fS_1 sg k
    have hf2 := fS_2 sg k hno
    have hmk := mrk_c (fS sg k).1
    refine wp_iload_n G 3 dX10_fault_6 rfl ?_
    refine wp_aload_n G 0 dX10_fault_7 rfl ?_
    refine wp_get G 19 cOk9 fX10_60 dX10_fault_8 h64 rfl ?_
    refine wp_bipush G dX10_fault_11 (by decide) ?_
    refine wp_iald (j := 6) G dX10_fault_13 h81 rfl (by decide) (by decide) ?_
    refine wp_icmp_ge G dX10_fault_14 (by omega) (by omega) (fun kq1 => ?_) (fun kq1 => ?_)
    · skip
      refine wp_iload_n G 1 dX10_fault_80 rfl ?_
      refine wp_if_ne G dX10_fault_81 (by omega) (fun kq2 => ?_) (fun kq2 => ?_)
      · skip
        refine wp_aload_n G 0 dX10_fault_93 rfl ?_
        refine wp_get G 19 cOk9 fX10_60 dX10_fault_94 h64 rfl ?_
        refine wp_bipush G dX10_fault_97 (by decide) ?_
        refine wp_iald (j := 6) G dX10_fault_99 h81 rfl (by decide) (by decide) ?_
        exact wp_ireturn G hr dX10_fault_100 ⟨by have ek : k = sl 6 := (by omega); subst ek; rw [flt_end hno]; first | rw [ifZ_y (by omega)] | rw [ifZ_n (by omega)], rfl, by rfl⟩
      · skip
        refine wp_iload_n G 2 dX10_fault_84 rfl ?_
        refine wp_if_le G dX10_fault_85 (by omega) (fun kq3 => ?_) (fun kq3 => ?_)
        · skip
          refine wp_aload_n G 0 dX10_fault_93 rfl ?_
          refine wp_get G 19 cOk9 fX10_60 dX10_fault_94 h64 rfl ?_
          refine wp_bipush G dX10_fault_97 (by decide) ?_
          refine wp_iald (j := 6) G dX10_fault_99 h81 rfl (by decide) (by decide) ?_
          exact wp_ireturn G hr dX10_fault_100 ⟨by have ek : k = sl 6 := (by omega); subst ek; rw [flt_end hno]; first | rw [ifZ_y (by omega)] | rw [ifZ_n (by omega)], rfl, by rfl⟩
        · skip
          refine wp_bipush G dX10_fault_88 (by decide) ?_
          refine wp_goto G dX10_fault_90 ?_
          exact wp_ireturn G hr dX10_fault_100 ⟨by have ek : k = sl 6 := (by omega); subst ek; rw [flt_end hno]; first | rw [ifZ_y (by omega)] | rw [ifZ_n (by omega)], rfl, by rfl⟩
    · skip
      refine wp_aload_n G 0 dX10_fault_17 rfl ?_
      refine wp_get G 18 cOk9 fX10_57 dX10_fault_18 h64 rfl ?_
      refine wp_sipush G dX10_fault_21 (by decide) ?_
      refine wp_iload_n G 3 dX10_fault_24 rfl ?_
      refine wp_iadd G dX10_fault_25 ?_
      refine wp_iald (j := 288 + k) G dX10_fault_26 h80 (by omega) (by omega) (by decide) ?_
      rw [hsm k (by omega)]
      refine wp_istore (lv' := [(4, zI (sg k)), (0, zR 64), (1, zI (((fS sg k).1 : Nat) : Int)), (2, zI (((fS sg k).2 : Nat) : Int)), (3, zI ((k : Nat) : Int))]) G dX10_fault_27 (by decide) rfl ?_
      have hsk := hsg k (by omega)
      refine wp_iload G 0 dX10_fault_29 rfl ?_
      refine wp_cSE (as := [zI (sg k)]) (rest := []) (hp2 := (nx, h, [])) G mX10_isDigit lX10_258 sX10_isDigit dX10_fault_31 rfl rfl (Nat.le_of_ble_eq_true rfl) (rmx_ok hR (by decide) (by decide) (by decide) (by decide)) (t_X10_isDigit (nx := nx) (v := (sg k)) (by omega)) rfl ?_
      refine wp_ifeq_bt G dX10_fault_34 (fun kq4 => ?_) (fun kq4 => ?_)
      · skip
        refine wp_iload_n G 3 dX10_fault_48 rfl ?_
        refine wp_if_le G dX10_fault_49 (by omega) (fun kq5 => ?_) (fun kq5 => ?_)
        · skip
          refine wp_iload_n G 4 dX10_fault_72 rfl ?_
          exact wp_ireturn G hr dX10_fault_73 ⟨by rw [flt_at (by omega) hno (by unfold sBad sGo sEnd; omega)], rfl, by rfl⟩
        · skip
          refine wp_iload G 0 dX10_fault_52 rfl ?_
          refine wp_iload_n G 2 dX10_fault_54 rfl ?_
          refine wp_cSE (as := [zI (((fS sg k).1 : Nat) : Int)]) (rest := [zI (sg k)]) (hp2 := (nx, h, [])) G mX10_markOf lX10_261 sX10_markOf dX10_fault_55 rfl rfl (Nat.le_of_ble_eq_true rfl) (rmx_ok hR (by decide) (by decide) (by decide) (by decide)) (t_X10_markOf (nx := nx) (k := ((fS sg k).1)) (by omega)) rfl ?_
          refine wp_icmp_ne G dX10_fault_58 (by omega) (by omega) (fun kq6 => ?_) (fun kq6 => ?_)
          · skip
            refine wp_iload_n G 4 dX10_fault_72 rfl ?_
            exact wp_ireturn G hr dX10_fault_73 ⟨by rw [flt_at (by omega) hno (by unfold sBad sGo sEnd; omega)], rfl, by rfl⟩
          · skip
            refine wp_iload_n G 2 dX10_fault_61 rfl ?_
            refine wp_iconst G dX10_fault_62 ?_
            refine wp_iadd G dX10_fault_63 ?_
            refine wp_iconst G dX10_fault_64 ?_
            refine wp_irem G (by omega) (by omega) (by omega) dX10_fault_65 ?_
            refine wp_istore_n (lv' := [(1, zI (Int.tmod ((((fS sg k).1 : Nat) : Int) + 1) 4)), (4, zI (sg k)), (0, zR 64), (2, zI (((fS sg k).2 : Nat) : Int)), (3, zI ((k : Nat) : Int))]) G dX10_fault_66 (by decide) rfl ?_
            refine wp_iconst G dX10_fault_67 ?_
            refine wp_istore_n (lv' := [(2, zI 0), (1, zI (Int.tmod ((((fS sg k).1 : Nat) : Int) + 1) 4)), (4, zI (sg k)), (0, zR 64), (3, zI ((k : Nat) : Int))]) G dX10_fault_68 (by decide) rfl ?_
            refine wp_goto G dX10_fault_69 ?_
            refine wp_iinc (lv' := [(3, zI (((k : Nat) : Int) + 1)), (2, zI 0), (1, zI (Int.tmod ((((fS sg k).1 : Nat) : Int) + 1) 4)), (4, zI (sg k)), (0, zR 64)]) G 4 dX10_fault_74 rfl (by decide) rfl ?_
            refine wp_goto G dX10_fault_77 ?_
            refine wp_lv [4, 2, 1, 0] rfl ?_
            exact ih6 (k + 1) (Int.tmod ((((fS sg k).1 : Nat) : Int) + 1) 4) 0 (((k : Nat) : Int) + 1) (by omega) (by first | (rw [fS_y (by unfold sEnd; omega)]; exact tm4 _) | (rw [fS_n (by unfold sEnd; omega)])) (by first | (rw [fS_y (by unfold sEnd; omega)]; rfl) | (rw [fS_n (by unfold sEnd; omega)]; rfl)) (by omega) (by omega) (by intro r hr; rcases Nat.lt_succ_iff_lt_or_eq.mp hr with e | e; exact hno r e; subst e; intro z; have z1 := z.1; have z2 := z.2; unfold sGo at z1; unfold sEnd at z2; omega)
      · skip
        refine wp_iload_n G 3 dX10_fault_37 rfl ?_
        refine wp_iconst G dX10_fault_38 ?_
        refine wp_icmp_ge G dX10_fault_39 (by omega) (by omega) (fun kq7 => ?_) (fun kq7 => ?_)
        · skip
          refine wp_iload_n G 3 dX10_fault_48 rfl ?_
          refine wp_if_le G dX10_fault_49 (by omega) (fun kq8 => ?_) (fun kq8 => ?_)
          · skip
            refine wp_iload_n G 4 dX10_fault_72 rfl ?_
            exact wp_ireturn G hr dX10_fault_73 ⟨by rw [flt_at (by omega) hno (by unfold sBad sGo sEnd; omega)], rfl, by rfl⟩
          · skip
            refine wp_iload G 0 dX10_fault_52 rfl ?_
            refine wp_iload_n G 2 dX10_fault_54 rfl ?_
            refine wp_cSE (as := [zI (((fS sg k).1 : Nat) : Int)]) (rest := [zI (sg k)]) (hp2 := (nx, h, [])) G mX10_markOf lX10_261 sX10_markOf dX10_fault_55 rfl rfl (Nat.le_of_ble_eq_true rfl) (rmx_ok hR (by decide) (by decide) (by decide) (by decide)) (t_X10_markOf (nx := nx) (k := ((fS sg k).1)) (by omega)) rfl ?_
            refine wp_icmp_ne G dX10_fault_58 (by omega) (by omega) (fun kq9 => ?_) (fun kq9 => ?_)
            · skip
              refine wp_iload_n G 4 dX10_fault_72 rfl ?_
              exact wp_ireturn G hr dX10_fault_73 ⟨by rw [flt_at (by omega) hno (by unfold sBad sGo sEnd; omega)], rfl, by rfl⟩
            · skip
              refine wp_iload_n G 2 dX10_fault_61 rfl ?_
              refine wp_iconst G dX10_fault_62 ?_
              refine wp_iadd G dX10_fault_63 ?_
              refine wp_iconst G dX10_fault_64 ?_
              refine wp_irem G (by omega) (by omega) (by omega) dX10_fault_65 ?_
              refine wp_istore_n (lv' := [(1, zI (Int.tmod ((((fS sg k).1 : Nat) : Int) + 1) 4)), (4, zI (sg k)), (0, zR 64), (2, zI (((fS sg k).2 : Nat) : Int)), (3, zI ((k : Nat) : Int))]) G dX10_fault_66 (by decide) rfl ?_
              refine wp_iconst G dX10_fault_67 ?_
              refine wp_istore_n (lv' := [(2, zI 0), (1, zI (Int.tmod ((((fS sg k).1 : Nat) : Int) + 1) 4)), (4, zI (sg k)), (0, zR 64), (3, zI ((k : Nat) : Int))]) G dX10_fault_68 (by decide) rfl ?_
              refine wp_goto G dX10_fault_69 ?_
              refine wp_iinc (lv' := [(3, zI (((k : Nat) : Int) + 1)), (2, zI 0), (1, zI (Int.tmod ((((fS sg k).1 : Nat) : Int) + 1) 4)), (4, zI (sg k)), (0, zR 64)]) G 4 dX10_fault_74 rfl (by decide) rfl ?_
              refine wp_goto G dX10_fault_77 ?_
              refine wp_lv [4, 2, 1, 0] rfl ?_
              exact ih6 (k + 1) (Int.tmod ((((fS sg k).1 : Nat) : Int) + 1) 4) 0 (((k : Nat) : Int) + 1) (by omega) (by first | (rw [fS_y (by unfold sEnd; omega)]; exact tm4 _) | (rw [fS_n (by unfold sEnd; omega)])) (by first | (rw [fS_y (by unfold sEnd; omega)]; rfl) | (rw [fS_n (by unfold sEnd; omega)]; rfl)) (by omega) (by omega) (by intro r hr; rcases Nat.lt_succ_iff_lt_or_eq.mp hr with e | e; exact hno r e; subst e; intro z; have z1 := z.1; have z2 := z.2; unfold sGo at z1; unfold sEnd at z2; omega)
        · skip
          refine wp_iinc (lv' := [(2, zI ((((fS sg k).2 : Nat) : Int) + 1)), (4, zI (sg k)), (0, zR 64), (1, zI (((fS sg k).1 : Nat) : Int)), (3, zI ((k : Nat) : Int))]) G 3 dX10_fault_42 rfl (by decide) rfl ?_
          refine wp_goto G dX10_fault_45 ?_
          refine wp_iinc (lv' := [(3, zI (((k : Nat) : Int) + 1)), (2, zI ((((fS sg k).2 : Nat) : Int) + 1)), (4, zI (sg k)), (0, zR 64), (1, zI (((fS sg k).1 : Nat) : Int))]) G 4 dX10_fault_74 rfl (by decide) rfl ?_
          refine wp_goto G dX10_fault_77 ?_
          refine wp_lv [3, 4, 1, 0] rfl ?_
          exact ih6 (k + 1) (((fS sg k).1 : Nat) : Int) ((((fS sg k).2 : Nat) : Int) + 1) (((k : Nat) : Int) + 1) (by omega) (by first | (rw [fS_y (by unfold sEnd; omega)]; exact tm4 _) | (rw [fS_n (by unfold sEnd; omega)])) (by first | (rw [fS_y (by unfold sEnd; omega)]; rfl) | (rw [fS_n (by unfold sEnd; omega)]; rfl)) (by omega) (by omega) (by intro r hr; rcases Nat.lt_succ_iff_lt_or_eq.mp hr with e | e; exact hno r e; subst e; intro z; have z1 := z.1; have z2 := z.2; unfold sGo at z1; unfold sEnd at z2; omega)

set_option maxRecDepth 100000 in
set_option maxHeartbeats 4000000 in
theorem t_X10_manyAhead {nx : Nat} {h : Nat → Option PC} {n : Nat} {q : Nat → Nat → Int} {o : Nat → Nat} {fc : Nat} {hn : Nat} {ln : Nat} {ma : Int} {mb : Int} {st : Nat → Int} {d : Int} {y : Int} {m : Int} (hQ : isM h n q o fc hn ln ma mb st) (hO : okQ n q o) (hN : okN st) (hd : 0 ≤ d ∧ d ≤ 3999) (hy : 0 ≤ y ∧ y ≤ 9999) (hm : 0 ≤ m ∧ m ≤ 9999) : Cx 1 (0, 0) yX10_manyAhead cX10_manyAhead 7 (some .int) [zR 64, zI d, zI y, zI m] nx h (Rt (zI (hma q n y m d)) nx []) := by
  refine cx_of pnX10_manyAhead (Nat.le_of_ble_eq_true rfl) ?_
  intro K G hr hnm hR
  obtain ⟨h64, h65, h66, h67, h68, h69, h70, h71, h72, h73⟩ := id hQ
  have hn40 := hO.1
  obtain ⟨hN0, hN1, hN2, hN3, hN4⟩ := id hN
  show Wp K 7 (Mx K h (Rt (zI (hma q n y m d)) nx []) (0, 0)) (0, 0) 0 [(0, zR 64), (1, zI d), (2, zI y), (3, zI m)] [] (nx, h, [])
  refine wp_iconst G dX10_manyAhead_0 ?_
  refine wp_istore (lv' := [(4, zI 0), (0, zR 64), (1, zI d), (2, zI y), (3, zI m)]) G dX10_manyAhead_1 (by decide) rfl ?_
  refine wp_iconst G dX10_manyAhead_3 ?_
  refine wp_istore (lv' := [(5, zI 0), (4, zI 0), (0, zR 64), (1, zI d), (2, zI y), (3, zI m)]) G dX10_manyAhead_4 (by decide) rfl ?_
  refine wp_lv [2, 3, 4, 5, 1, 0] rfl ?_
  suffices lp6 : ∀ (fu : Nat) (i : Nat) (v4 : Int) (v5 : Int), n - i < fu → (v4 = cntZ (fun j => grt q m j ∧ q 5 j < d ∧ d - y ≤ q 1 j) i) → (v5 = ((i : Nat) : Int)) → (i ≤ n) → Wp K 7 (Mx K h (Rt (zI (hma q n y m d)) nx []) (0, 0)) (0, 0) 6 [(0, zR 64), (1, zI d), (2, zI y), (3, zI m), (4, zI v4), (5, zI v5)] [] (nx, h, []) from lp6 _ 0 0 0 (Nat.lt_succ_self _) (by rfl) (by omega) (by omega)
  intro fu
  induction fu with
  | zero => intro i v4 v5 hm; exact absurd hm (Nat.not_lt_zero _)
  | succ fu ih6 =>
    intro i v4 v5 hm6 e4 e5 hi0
    subst e4
    subst e5
    have htl := hO.t i
    refine wp_iload G 5 dX10_manyAhead_6 rfl ?_
    refine wp_aload_n G 0 dX10_manyAhead_8 rfl ?_
    refine wp_get G 7 cOk9 fX10_96 dX10_manyAhead_9 h64 rfl ?_
    refine wp_icmp_ge G dX10_manyAhead_12 (by omega) (by omega) (fun kq1 => ?_) (fun kq1 => ?_)
    · skip
      refine wp_iload G 4 dX10_manyAhead_91 rfl ?_
      exact wp_ireturn G hr dX10_manyAhead_93 ⟨by unfold hma; rw [show i = n by omega], rfl, by rfl⟩
    · skip
      refine wp_aload_n G 0 dX10_manyAhead_15 rfl ?_
      refine wp_iload G 5 dX10_manyAhead_16 rfl ?_
      refine wp_iconst G dX10_manyAhead_18 ?_
      refine wp_iload_n G 1 dX10_manyAhead_19 rfl ?_
      refine wp_iconst G dX10_manyAhead_20 ?_
      refine wp_isub G dX10_manyAhead_21 ?_
      refine wp_cVE (b := 64) (ci := 9) (as := [zI ((i : Nat) : Int), zI (-1), zI (d - 1)]) (rest := []) (hp2 := (nx, h, [])) G mX10_isCounted lX10_167 iX10_isCounted eX10_isCounted ⟨_, rfl, rfl⟩ dX10_manyAhead_22 h64 rfl rfl (Nat.le_of_ble_eq_true rfl) (rmx_ok hR (by decide) (by decide) (by decide) (by decide)) (t_X10_isCounted (nx := nx) (j := i) (a := (-1)) (b := (d - 1)) hQ hO hN (by omega) (by omega) (by omega)) rfl ?_
      refine wp_ifeq_bt G dX10_manyAhead_25 (fun kq2 => ?_) (fun kq2 => ?_)
      · skip
        refine wp_iconst G dX10_manyAhead_43 ?_
        refine wp_istore (lv' := [(6, zI 0), (0, zR 64), (1, zI d), (2, zI y), (3, zI m), (4, zI (cntZ (fun j => grt q m j ∧ q 5 j < d ∧ d - y ≤ q 1 j) i)), (5, zI ((i : Nat) : Int))]) G dX10_manyAhead_44 (by decide) rfl ?_
        refine wp_iload G 5 dX10_manyAhead_46 rfl ?_
        refine wp_iload G 0 dX10_manyAhead_48 rfl ?_
        refine wp_if_eq G dX10_manyAhead_50 (by omega) (fun _ => ?_) (fun z => by exfalso; omega)
        refine wp_iconst G dX10_manyAhead_81 ?_
        refine wp_iadd G dX10_manyAhead_82 ?_
        refine wp_istore (lv' := [(4, zI (cntZ (fun j => grt q m j ∧ q 5 j < d ∧ d - y ≤ q 1 j) i + 0)), (6, zI 0), (0, zR 64), (1, zI d), (2, zI y), (3, zI m), (5, zI ((i : Nat) : Int))]) G dX10_manyAhead_83 (by decide) rfl ?_
        refine wp_iinc (lv' := [(5, zI (((i : Nat) : Int) + 1)), (4, zI (cntZ (fun j => grt q m j ∧ q 5 j < d ∧ d - y ≤ q 1 j) i + 0)), (6, zI 0), (0, zR 64), (1, zI d), (2, zI y), (3, zI m)]) G 6 dX10_manyAhead_85 rfl (by decide) rfl ?_
        refine wp_goto G dX10_manyAhead_88 ?_
        refine wp_lv [3, 4, 5, 6, 1, 0] rfl ?_
        exact ih6 (i + 1) (cntZ (fun j => grt q m j ∧ q 5 j < d ∧ d - y ≤ q 1 j) i + 0) (((i : Nat) : Int) + 1) (by omega) (by have htl2 := htl (by omega); first | (rw [cntZ_y (by unfold grt; unfold cnd at *; omega)]; done) | (rw [cntZ_n (by unfold grt; unfold cnd at *; omega)]; omega)) (by omega) (by omega)
      · skip
        refine wp_aload_n G 0 dX10_manyAhead_28 rfl ?_
        refine wp_get G 4 cOk9 fX10_22 dX10_manyAhead_29 h64 rfl ?_
        refine wp_iload G 5 dX10_manyAhead_32 rfl ?_
        refine wp_iald (j := i) G dX10_manyAhead_34 h69 rfl (by omega) (by decide) ?_
        have rrq1 := hO.g i (by omega)
        refine wp_iload_n G 3 dX10_manyAhead_35 rfl ?_
        refine wp_icmp_lt G dX10_manyAhead_36 (by omega) (by omega) (fun kq4 => ?_) (fun kq4 => ?_)
        · skip
          refine wp_iconst G dX10_manyAhead_43 ?_
          refine wp_istore (lv' := [(6, zI 0), (0, zR 64), (1, zI d), (2, zI y), (3, zI m), (4, zI (cntZ (fun j => grt q m j ∧ q 5 j < d ∧ d - y ≤ q 1 j) i)), (5, zI ((i : Nat) : Int))]) G dX10_manyAhead_44 (by decide) rfl ?_
          refine wp_iload G 5 dX10_manyAhead_46 rfl ?_
          refine wp_iload G 0 dX10_manyAhead_48 rfl ?_
          refine wp_if_eq G dX10_manyAhead_50 (by omega) (fun _ => ?_) (fun z => by exfalso; omega)
          refine wp_iconst G dX10_manyAhead_81 ?_
          refine wp_iadd G dX10_manyAhead_82 ?_
          refine wp_istore (lv' := [(4, zI (cntZ (fun j => grt q m j ∧ q 5 j < d ∧ d - y ≤ q 1 j) i + 0)), (6, zI 0), (0, zR 64), (1, zI d), (2, zI y), (3, zI m), (5, zI ((i : Nat) : Int))]) G dX10_manyAhead_83 (by decide) rfl ?_
          refine wp_iinc (lv' := [(5, zI (((i : Nat) : Int) + 1)), (4, zI (cntZ (fun j => grt q m j ∧ q 5 j < d ∧ d - y ≤ q 1 j) i + 0)), (6, zI 0), (0, zR 64), (1, zI d), (2, zI y), (3, zI m)]) G 6 dX10_manyAhead_85 rfl (by decide) rfl ?_
          refine wp_goto G dX10_manyAhead_88 ?_
          refine wp_lv [3, 4, 5, 6, 1, 0] rfl ?_
          exact ih6 (i + 1) (cntZ (fun j => grt q m j ∧ q 5 j < d ∧ d - y ≤ q 1 j) i + 0) (((i : Nat) : Int) + 1) (by omega) (by have htl2 := htl (by omega); first | (rw [cntZ_y (by unfold grt; unfold cnd at *; omega)]; done) | (rw [cntZ_n (by unfold grt; unfold cnd at *; omega)]; omega)) (by omega) (by omega)
        · skip
          refine wp_iconst G dX10_manyAhead_39 ?_
          refine wp_goto G dX10_manyAhead_40 ?_
          refine wp_istore (lv' := [(6, zI 1), (0, zR 64), (1, zI d), (2, zI y), (3, zI m), (4, zI (cntZ (fun j => grt q m j ∧ q 5 j < d ∧ d - y ≤ q 1 j) i)), (5, zI ((i : Nat) : Int))]) G dX10_manyAhead_44 (by decide) rfl ?_
          refine wp_iload G 5 dX10_manyAhead_46 rfl ?_
          refine wp_iload G 0 dX10_manyAhead_48 rfl ?_
          refine wp_if_eq G dX10_manyAhead_50 (by omega) (fun z => by exfalso; omega) (fun _ => ?_)
          refine wp_aload_n G 1 dX10_manyAhead_53 rfl ?_
          refine wp_get G 1 cOk9 fX10_13 dX10_manyAhead_54 h64 rfl ?_
          refine wp_iload G 6 dX10_manyAhead_57 rfl ?_
          refine wp_iald (j := i) G dX10_manyAhead_59 h66 rfl (by omega) (by decide) ?_
          have rrq2 := hO.d i (by omega)
          refine wp_iload_n G 2 dX10_manyAhead_60 rfl ?_
          refine wp_icmp_ge G dX10_manyAhead_61 (by omega) (by omega) (fun kq7 => ?_) (fun kq7 => ?_)
          · skip
            refine wp_iconst G dX10_manyAhead_81 ?_
            refine wp_iadd G dX10_manyAhead_82 ?_
            refine wp_istore (lv' := [(4, zI (cntZ (fun j => grt q m j ∧ q 5 j < d ∧ d - y ≤ q 1 j) i + 0)), (6, zI 1), (0, zR 64), (1, zI d), (2, zI y), (3, zI m), (5, zI ((i : Nat) : Int))]) G dX10_manyAhead_83 (by decide) rfl ?_
            refine wp_iinc (lv' := [(5, zI (((i : Nat) : Int) + 1)), (4, zI (cntZ (fun j => grt q m j ∧ q 5 j < d ∧ d - y ≤ q 1 j) i + 0)), (6, zI 1), (0, zR 64), (1, zI d), (2, zI y), (3, zI m)]) G 6 dX10_manyAhead_85 rfl (by decide) rfl ?_
            refine wp_goto G dX10_manyAhead_88 ?_
            refine wp_lv [3, 4, 5, 6, 1, 0] rfl ?_
            exact ih6 (i + 1) (cntZ (fun j => grt q m j ∧ q 5 j < d ∧ d - y ≤ q 1 j) i + 0) (((i : Nat) : Int) + 1) (by omega) (by have htl2 := htl (by omega); first | (rw [cntZ_y (by unfold grt; unfold cnd at *; omega)]; done) | (rw [cntZ_n (by unfold grt; unfold cnd at *; omega)]; omega)) (by omega) (by omega)
          · skip
            refine wp_aload_n G 1 dX10_manyAhead_64 rfl ?_
            refine wp_get G 1 cOk9 fX10_13 dX10_manyAhead_65 h64 rfl ?_
            refine wp_iload G 6 dX10_manyAhead_68 rfl ?_
            refine wp_iald (j := i) G dX10_manyAhead_70 h66 rfl (by omega) (by decide) ?_
            have rrq3 := hO.d i (by omega)
            refine wp_iload_n G 2 dX10_manyAhead_71 rfl ?_
            refine wp_iload_n G 3 dX10_manyAhead_72 rfl ?_
            refine wp_isub G dX10_manyAhead_73 ?_
            refine wp_icmp_lt G dX10_manyAhead_74 (by omega) (by omega) (fun kq8 => ?_) (fun kq8 => ?_)
            · skip
              refine wp_iconst G dX10_manyAhead_81 ?_
              refine wp_iadd G dX10_manyAhead_82 ?_
              refine wp_istore (lv' := [(4, zI (cntZ (fun j => grt q m j ∧ q 5 j < d ∧ d - y ≤ q 1 j) i + 0)), (6, zI 1), (0, zR 64), (1, zI d), (2, zI y), (3, zI m), (5, zI ((i : Nat) : Int))]) G dX10_manyAhead_83 (by decide) rfl ?_
              refine wp_iinc (lv' := [(5, zI (((i : Nat) : Int) + 1)), (4, zI (cntZ (fun j => grt q m j ∧ q 5 j < d ∧ d - y ≤ q 1 j) i + 0)), (6, zI 1), (0, zR 64), (1, zI d), (2, zI y), (3, zI m)]) G 6 dX10_manyAhead_85 rfl (by decide) rfl ?_
              refine wp_goto G dX10_manyAhead_88 ?_
              refine wp_lv [3, 4, 5, 6, 1, 0] rfl ?_
              exact ih6 (i + 1) (cntZ (fun j => grt q m j ∧ q 5 j < d ∧ d - y ≤ q 1 j) i + 0) (((i : Nat) : Int) + 1) (by omega) (by have htl2 := htl (by omega); first | (rw [cntZ_y (by unfold grt; unfold cnd at *; omega)]; done) | (rw [cntZ_n (by unfold grt; unfold cnd at *; omega)]; omega)) (by omega) (by omega)
            · skip
              refine wp_iconst G dX10_manyAhead_77 ?_
              refine wp_goto G dX10_manyAhead_78 ?_
              refine wp_iadd G dX10_manyAhead_82 ?_
              refine wp_istore (lv' := [(4, zI (cntZ (fun j => grt q m j ∧ q 5 j < d ∧ d - y ≤ q 1 j) i + 1)), (6, zI 1), (0, zR 64), (1, zI d), (2, zI y), (3, zI m), (5, zI ((i : Nat) : Int))]) G dX10_manyAhead_83 (by decide) rfl ?_
              refine wp_iinc (lv' := [(5, zI (((i : Nat) : Int) + 1)), (4, zI (cntZ (fun j => grt q m j ∧ q 5 j < d ∧ d - y ≤ q 1 j) i + 1)), (6, zI 1), (0, zR 64), (1, zI d), (2, zI y), (3, zI m)]) G 6 dX10_manyAhead_85 rfl (by decide) rfl ?_
              refine wp_goto G dX10_manyAhead_88 ?_
              refine wp_lv [3, 4, 5, 6, 1, 0] rfl ?_
              exact ih6 (i + 1) (cntZ (fun j => grt q m j ∧ q 5 j < d ∧ d - y ≤ q 1 j) i + 1) (((i : Nat) : Int) + 1) (by omega) (by have htl2 := htl (by omega); first | (rw [cntZ_y (by unfold grt; unfold cnd at *; omega)]; done) | (rw [cntZ_n (by unfold grt; unfold cnd at *; omega)]; omega)) (by omega) (by omega)

set_option maxRecDepth 100000 in
set_option maxHeartbeats 4000000 in
theorem t_X10_hasQuake {nx : Nat} {h : Nat → Option PC} {n : Nat} {q : Nat → Nat → Int} {o : Nat → Nat} {fc : Nat} {hn : Nat} {ln : Nat} {ma : Int} {mb : Int} {st : Nat → Int} {d : Int} {m : Int} (hQ : isM h n q o fc hn ln ma mb st) (hO : okQ n q o) (hN : okN st) (ri_d : r32 d) (ri_m : r32 m) : Cx 0 (0, 0) yX10_hasQuake cX10_hasQuake 5 (some .boolean) [zR 64, zI d, zI m] nx h (Rt (zI (bt (∃ j, j < n ∧ q 1 j = d ∧ grt q m j))) nx []) := by
  refine cx_of pnX10_hasQuake (Nat.le_of_ble_eq_true rfl) ?_
  intro K G hr hnm hR
  obtain ⟨h64, h65, h66, h67, h68, h69, h70, h71, h72, h73⟩ := id hQ
  have hn40 := hO.1
  obtain ⟨hN0, hN1, hN2, hN3, hN4⟩ := id hN
  show Wp K 5 (Mx K h (Rt (zI (bt (∃ j, j < n ∧ q 1 j = d ∧ grt q m j))) nx []) (0, 0)) (0, 0) 0 [(0, zR 64), (1, zI d), (2, zI m)] [] (nx, h, [])
  refine wp_iconst G dX10_hasQuake_0 ?_
  refine wp_istore_n (lv' := [(3, zI 0), (0, zR 64), (1, zI d), (2, zI m)]) G dX10_hasQuake_1 (by decide) rfl ?_
  refine wp_iconst G dX10_hasQuake_2 ?_
  refine wp_istore (lv' := [(4, zI 0), (3, zI 0), (0, zR 64), (1, zI d), (2, zI m)]) G dX10_hasQuake_3 (by decide) rfl ?_
  refine wp_lv [2, 3, 4, 1, 0] rfl ?_
  suffices lp5 : ∀ (fu : Nat) (k : Nat) (v3 : Int) (v4 : Int), n - k < fu → (v3 = bt (∃ j, j < k ∧ q 1 j = d ∧ grt q m j)) → (v4 = ((k : Nat) : Int)) → (k ≤ n) → Wp K 5 (Mx K h (Rt (zI (bt (∃ j, j < n ∧ q 1 j = d ∧ grt q m j))) nx []) (0, 0)) (0, 0) 5 [(0, zR 64), (1, zI d), (2, zI m), (3, zI v3), (4, zI v4)] [] (nx, h, []) from lp5 _ 0 0 0 (Nat.lt_succ_self _) (by rw [bt_0 (fun ⟨j, z, _⟩ => by omega)]) (by omega) (by omega)
  intro fu
  induction fu with
  | zero => intro k v3 v4 hm; exact absurd hm (Nat.not_lt_zero _)
  | succ fu ih5 =>
    intro k v3 v4 hm5 e3 e4 hi0
    subst e3
    subst e4
    refine wp_iload G 4 dX10_hasQuake_5 rfl ?_
    refine wp_aload_n G 0 dX10_hasQuake_7 rfl ?_
    refine wp_get G 7 cOk9 fX10_96 dX10_hasQuake_8 h64 rfl ?_
    refine wp_icmp_ge G dX10_hasQuake_11 (by omega) (by omega) (fun kq1 => ?_) (fun kq1 => ?_)
    · skip
      refine wp_iload_n G 3 dX10_hasQuake_62 rfl ?_
      exact wp_zreturn G (bt_01 _) hr dX10_hasQuake_63 ⟨by rw [show k = n by omega], rfl, by rfl⟩
    · skip
      refine wp_iload_n G 3 dX10_hasQuake_14 rfl ?_
      refine wp_ifne_bt G dX10_hasQuake_15 (fun kq2 => ?_) (fun kq2 => ?_)
      · skip
        refine wp_iconst G dX10_hasQuake_50 ?_
        refine wp_goto G dX10_hasQuake_51 ?_
        refine wp_istore_n (lv' := [(3, zI 1), (0, zR 64), (1, zI d), (2, zI m), (4, zI ((k : Nat) : Int))]) G dX10_hasQuake_55 (by decide) rfl ?_
        refine wp_iinc (lv' := [(4, zI (((k : Nat) : Int) + 1)), (3, zI 1), (0, zR 64), (1, zI d), (2, zI m)]) G 4 dX10_hasQuake_56 rfl (by decide) rfl ?_
        refine wp_goto G dX10_hasQuake_59 ?_
        refine wp_lv [2, 3, 4, 1, 0] rfl ?_
        exact ih5 (k + 1) 1 (((k : Nat) : Int) + 1) (by omega) (by first | (rw [bt_1 (hq_k ‹_›)]; done) | (rw [bt_1 ⟨k, by omega, by omega, by unfold grt; omega⟩]; done) | (rw [bt_0 (hq_n ‹_› (by unfold grt; omega))])) (by omega) (by omega)
      · skip
        refine wp_aload_n G 0 dX10_hasQuake_18 rfl ?_
        refine wp_get G 6 cOk9 fX10_28 dX10_hasQuake_19 h64 rfl ?_
        refine wp_iload G 4 dX10_hasQuake_22 rfl ?_
        refine wp_zald (j := k) G dX10_hasQuake_24 h71 rfl (by omega) (by decide) ?_
        have rrq1 := hO.b k (by omega)
        refine wp_if_ne G dX10_hasQuake_25 (by omega) (fun kq3 => ?_) (fun kq3 => ?_)
        · skip
          refine wp_iconst G dX10_hasQuake_54 ?_
          refine wp_istore_n (lv' := [(3, zI 0), (0, zR 64), (1, zI d), (2, zI m), (4, zI ((k : Nat) : Int))]) G dX10_hasQuake_55 (by decide) rfl ?_
          refine wp_iinc (lv' := [(4, zI (((k : Nat) : Int) + 1)), (3, zI 0), (0, zR 64), (1, zI d), (2, zI m)]) G 4 dX10_hasQuake_56 rfl (by decide) rfl ?_
          refine wp_goto G dX10_hasQuake_59 ?_
          refine wp_lv [2, 3, 4, 1, 0] rfl ?_
          exact ih5 (k + 1) 0 (((k : Nat) : Int) + 1) (by omega) (by first | (rw [bt_1 (hq_k ‹_›)]; done) | (rw [bt_1 ⟨k, by omega, by omega, by unfold grt; omega⟩]; done) | (rw [bt_0 (hq_n ‹_› (by unfold grt; omega))])) (by omega) (by omega)
        · skip
          refine wp_aload_n G 0 dX10_hasQuake_28 rfl ?_
          refine wp_get G 1 cOk9 fX10_13 dX10_hasQuake_29 h64 rfl ?_
          refine wp_iload G 4 dX10_hasQuake_32 rfl ?_
          refine wp_iald (j := k) G dX10_hasQuake_34 h66 rfl (by omega) (by decide) ?_
          have rrq2 := hO.d k (by omega)
          refine wp_iload_n G 1 dX10_hasQuake_35 rfl ?_
          refine wp_icmp_ne G dX10_hasQuake_36 (by omega) (by omega) (fun kq4 => ?_) (fun kq4 => ?_)
          · skip
            refine wp_iconst G dX10_hasQuake_54 ?_
            refine wp_istore_n (lv' := [(3, zI 0), (0, zR 64), (1, zI d), (2, zI m), (4, zI ((k : Nat) : Int))]) G dX10_hasQuake_55 (by decide) rfl ?_
            refine wp_iinc (lv' := [(4, zI (((k : Nat) : Int) + 1)), (3, zI 0), (0, zR 64), (1, zI d), (2, zI m)]) G 4 dX10_hasQuake_56 rfl (by decide) rfl ?_
            refine wp_goto G dX10_hasQuake_59 ?_
            refine wp_lv [2, 3, 4, 1, 0] rfl ?_
            exact ih5 (k + 1) 0 (((k : Nat) : Int) + 1) (by omega) (by first | (rw [bt_1 (hq_k ‹_›)]; done) | (rw [bt_1 ⟨k, by omega, by omega, by unfold grt; omega⟩]; done) | (rw [bt_0 (hq_n ‹_› (by unfold grt; omega))])) (by omega) (by omega)
          · skip
            refine wp_aload_n G 0 dX10_hasQuake_39 rfl ?_
            refine wp_get G 4 cOk9 fX10_22 dX10_hasQuake_40 h64 rfl ?_
            refine wp_iload G 4 dX10_hasQuake_43 rfl ?_
            refine wp_iald (j := k) G dX10_hasQuake_45 h69 rfl (by omega) (by decide) ?_
            have rrq3 := hO.g k (by omega)
            refine wp_iload_n G 2 dX10_hasQuake_46 rfl ?_
            refine wp_icmp_lt G dX10_hasQuake_47 (by omega) (by omega) (fun kq5 => ?_) (fun kq5 => ?_)
            · skip
              refine wp_iconst G dX10_hasQuake_54 ?_
              refine wp_istore_n (lv' := [(3, zI 0), (0, zR 64), (1, zI d), (2, zI m), (4, zI ((k : Nat) : Int))]) G dX10_hasQuake_55 (by decide) rfl ?_
              refine wp_iinc (lv' := [(4, zI (((k : Nat) : Int) + 1)), (3, zI 0), (0, zR 64), (1, zI d), (2, zI m)]) G 4 dX10_hasQuake_56 rfl (by decide) rfl ?_
              refine wp_goto G dX10_hasQuake_59 ?_
              refine wp_lv [2, 3, 4, 1, 0] rfl ?_
              exact ih5 (k + 1) 0 (((k : Nat) : Int) + 1) (by omega) (by first | (rw [bt_1 (hq_k ‹_›)]; done) | (rw [bt_1 ⟨k, by omega, by omega, by unfold grt; omega⟩]; done) | (rw [bt_0 (hq_n ‹_› (by unfold grt; omega))])) (by omega) (by omega)
            · skip
              refine wp_iconst G dX10_hasQuake_50 ?_
              refine wp_goto G dX10_hasQuake_51 ?_
              refine wp_istore_n (lv' := [(3, zI 1), (0, zR 64), (1, zI d), (2, zI m), (4, zI ((k : Nat) : Int))]) G dX10_hasQuake_55 (by decide) rfl ?_
              refine wp_iinc (lv' := [(4, zI (((k : Nat) : Int) + 1)), (3, zI 1), (0, zR 64), (1, zI d), (2, zI m)]) G 4 dX10_hasQuake_56 rfl (by decide) rfl ?_
              refine wp_goto G dX10_hasQuake_59 ?_
              refine wp_lv [2, 3, 4, 1, 0] rfl ?_
              exact ih5 (k + 1) 1 (((k : Nat) : Int) + 1) (by omega) (by first | (rw [bt_1 (hq_k ‹_›)]; done) | (rw [bt_1 ⟨k, by omega, by omega, by unfold grt; omega⟩]; done) | (rw [bt_0 (hq_n ‹_› (by unfold grt; omega))])) (by omega) (by omega)

set_option maxRecDepth 100000 in
set_option maxHeartbeats 4000000 in
theorem t_X10_lossBy {nx : Nat} {h : Nat → Option PC} {n : Nat} {q : Nat → Nat → Int} {o : Nat → Nat} {fc : Nat} {hn : Nat} {ln : Nat} {ma : Int} {mb : Int} {st : Nat → Int} {hs : Nat → Nat → Int} {kd : Nat → Nat} {dm : Nat → Nat → Int} {lw : Nat → Nat → Int} {x : Int} {y : Int} {g : Int} {s : Nat} (hQ : isM h n q o fc hn ln ma mb st) (hO : okQ n q o) (hN : okN st) (hG : isMg h hs kd dm lw) (hH : okH hn hs kd) (hD : okD dm) (hL : okL ln lw) (hx : 0 ≤ x ∧ x ≤ 15) (hy : 0 ≤ y ∧ y ≤ 15) (hg : 0 ≤ g ∧ g ≤ 90) (h4 : s < 4096) : Cx 2 (0, 0) yX10_lossBy cX10_lossBy 9 (some .int) [zR 64, zI x, zI y, zI g, zI ((s : Nat) : Int)] nx h (Rt (zI (lsA hn hs kd dm x y g s (st 4))) nx []) := by
  refine cx_of pnX10_lossBy (Nat.le_of_ble_eq_true rfl) ?_
  intro K G hr hnm hR
  obtain ⟨h64, h65, h66, h67, h68, h69, h70, h71, h72, h73⟩ := id hQ
  have hn40 := hO.1
  obtain ⟨hN0, hN1, hN2, hN3, hN4⟩ := id hN
  obtain ⟨h83, h84, h85, h86, h87, h88, h89, h90, h91, h92⟩ := id hG
  have hn12 := hH.1
  have ln12 := hL.1
  show Wp K 9 (Mx K h (Rt (zI (lsA hn hs kd dm x y g s (st 4))) nx []) (0, 0)) (0, 0) 0 [(0, zR 64), (1, zI x), (2, zI y), (3, zI g), (4, zI ((s : Nat) : Int))] [] (nx, h, [])
  refine wp_iconst G dX10_lossBy_0 ?_
  refine wp_istore (lv' := [(5, zI 0), (0, zR 64), (1, zI x), (2, zI y), (3, zI g), (4, zI ((s : Nat) : Int))]) G dX10_lossBy_1 (by decide) rfl ?_
  refine wp_iconst G dX10_lossBy_3 ?_
  refine wp_istore (lv' := [(6, zI 0), (5, zI 0), (0, zR 64), (1, zI x), (2, zI y), (3, zI g), (4, zI ((s : Nat) : Int))]) G dX10_lossBy_4 (by decide) rfl ?_
  refine wp_lv [2, 3, 4, 5, 6, 1, 0] rfl ?_
  suffices lp6 : ∀ (fu : Nat) (u : Nat) (v5 : Int) (v6 : Int), hn - u < fu → (v5 = sumZ (fun u => lsH hs dm u (asK kd s u) x y g (st 4)) u) → (v6 = ((u : Nat) : Int)) → (u ≤ hn) → Wp K 9 (Mx K h (Rt (zI (lsA hn hs kd dm x y g s (st 4))) nx []) (0, 0)) (0, 0) 6 [(0, zR 64), (1, zI x), (2, zI y), (3, zI g), (4, zI ((s : Nat) : Int)), (5, zI v5), (6, zI v6)] [] (nx, h, []) from lp6 _ 0 0 0 (Nat.lt_succ_self _) (by rfl) (by omega) (by omega)
  intro fu
  induction fu with
  | zero => intro u v5 v6 hm; exact absurd hm (Nat.not_lt_zero _)
  | succ fu ih6 =>
    intro u v5 v6 hm6 e5 e6 hi0
    subst e5
    subst e6
    have hsk := fun z => shk_b (u := u) hH z hx hy hg hN4
    have hak := fun z => asK_lt (s := s) (u := u) hH z
    have hwu := hH.2.2.2.1 u
    have hku := hH.2.2.2.2.2 u
    refine wp_iload G 6 dX10_lossBy_6 rfl ?_
    refine wp_aload_n G 0 dX10_lossBy_8 rfl ?_
    refine wp_get G 27 cOk9 fX10_296 dX10_lossBy_9 h64 rfl ?_
    refine wp_icmp_ge G dX10_lossBy_12 (by omega) (by omega) (fun kq1 => ?_) (fun kq1 => ?_)
    · skip
      refine wp_iload G 5 dX10_lossBy_116 rfl ?_
      exact wp_ireturn G hr dX10_lossBy_118 ⟨by rw [show u = hn by omega]; rfl, rfl, by rfl⟩
    · skip
      have hsk2 := (hsk (by omega)).1
      have hsk3 := (hsk (by omega)).2
      unfold shk at hsk3
      have hhx := hH.2.1 u (by omega)
      have hhy := hH.2.2.1 u (by omega)
      have hwu2 := hwu (by omega)
      have hku2 := hku (by omega)
      refine wp_iload_n G 3 dX10_lossBy_15 rfl ?_
      refine wp_aload_n G 0 dX10_lossBy_16 rfl ?_
      refine wp_get G 8 cOk9 fX10_32 dX10_lossBy_17 h64 rfl ?_
      refine wp_iconst G dX10_lossBy_20 ?_
      refine wp_iald (j := 4) G dX10_lossBy_21 h72 rfl (by decide) (by decide) ?_
      have rrq1 := hN.r 4 (by decide)
      refine wp_iload_n G 1 dX10_lossBy_22 rfl ?_
      refine wp_iload_n G 2 dX10_lossBy_23 rfl ?_
      refine wp_aload_n G 0 dX10_lossBy_24 rfl ?_
      refine wp_get G 22 cOk9 fX10_66 dX10_lossBy_25 h64 rfl ?_
      refine wp_iload G 6 dX10_lossBy_28 rfl ?_
      refine wp_iald (j := u) G dX10_lossBy_30 h83 rfl (by omega) (by decide) ?_
      have rrq2 := hH.2.1 u (by omega)
      refine wp_aload_n G 0 dX10_lossBy_31 rfl ?_
      refine wp_get G 23 cOk9 fX10_69 dX10_lossBy_32 h64 rfl ?_
      refine wp_iload G 6 dX10_lossBy_35 rfl ?_
      refine wp_iald (j := u) G dX10_lossBy_37 h84 rfl (by omega) (by decide) ?_
      have rrq3 := hH.2.2.1 u (by omega)
      refine wp_cSE (as := [zI x, zI y, zI ((hs 0) u), zI ((hs 1) u)]) (rest := [zI (st 4), zI g]) (hp2 := (nx, h, [])) G mX10_far lX10_142 sX10_far dX10_lossBy_38 rfl rfl (Nat.le_of_ble_eq_true rfl) (rmx_ok hR (by decide) (by decide) (by decide) (by decide)) (t_X10_far (nx := nx) (a := x) (b := y) (c := (hs 0 u)) (e := (hs 1 u)) hx hy hhx hhy) rfl ?_
      refine wp_imul G dX10_lossBy_41 ?_
      refine wp_isub G dX10_lossBy_42 ?_
      refine wp_istore (lv' := [(7, zI (g - ((st 4) * farZ x y (hs 0 u) (hs 1 u)))), (0, zR 64), (1, zI x), (2, zI y), (3, zI g), (4, zI ((s : Nat) : Int)), (5, zI (sumZ (fun u => lsH hs dm u (asK kd s u) x y g (st 4)) u)), (6, zI ((u : Nat) : Int))]) G dX10_lossBy_43 (by decide) rfl ?_
      refine wp_iload G 5 dX10_lossBy_45 rfl ?_
      refine wp_iload G 7 dX10_lossBy_47 rfl ?_
      refine wp_ishr (a := s) (k := u) G rfl rfl (by omega) (by omega) dX10_lossBy_49 ?_
      have hdl : s / 2 ^ u ≤ s := Nat.div_le_self _ _
      refine wp_iconst G dX10_lossBy_50 ?_
      refine wp_iand1 (a := s / 2 ^ u) G rfl (by omega) dX10_lossBy_51 ?_
      refine wp_iconst G dX10_lossBy_52 ?_
      have hm2 : s / 2 ^ u % 2 < 2 := Nat.mod_lt _ (by omega)
      refine wp_icmp_ne G dX10_lossBy_53 (by omega) (by omega) (fun kq2 => ?_) (fun kq2 => ?_)
      · skip
        refine wp_aload_n G 1 dX10_lossBy_60 rfl ?_
        refine wp_get G 24 cOk9 fX10_72 dX10_lossBy_61 h64 rfl ?_
        refine wp_iload G 7 dX10_lossBy_64 rfl ?_
        refine wp_iald (j := u) G dX10_lossBy_66 h85 rfl (by omega) (by decide) ?_
        have rrq4 := hH.2.2.2.2.2 u (by omega)
        refine wp_istore (lv' := [(8, zI ((kd u : Nat) : Int)), (7, zI (g - ((st 4) * farZ x y (hs 0 u) (hs 1 u)))), (0, zR 64), (1, zI x), (2, zI y), (3, zI g), (4, zI ((s : Nat) : Int)), (5, zI (sumZ (fun u => lsH hs dm u (asK kd s u) x y g (st 4)) u)), (6, zI ((u : Nat) : Int))]) G dX10_lossBy_67 (by decide) rfl ?_
        refine wp_iload G 7 dX10_lossBy_69 rfl ?_
        refine wp_aload_n G 2 dX10_lossBy_71 rfl ?_
        refine wp_get G 25 cOk9 fX10_75 dX10_lossBy_72 h64 rfl ?_
        refine wp_iload G 8 dX10_lossBy_75 rfl ?_
        refine wp_iald (j := u) G dX10_lossBy_77 h86 rfl (by omega) (by decide) ?_
        have rrq5 := hH.2.2.2.1 u (by omega)
        refine wp_aload_n G 2 dX10_lossBy_78 rfl ?_
        refine wp_get G 28 cOk9 fX10_81 dX10_lossBy_79 h64 rfl ?_
        refine wp_bipush G dX10_lossBy_82 (by decide) ?_
        refine wp_iload G 0 dX10_lossBy_84 rfl ?_
        refine wp_imul G dX10_lossBy_86 ?_
        refine wp_iload G 1 dX10_lossBy_87 rfl ?_
        refine wp_if_ge G dX10_lossBy_89 (by omega) (fun kq3 => ?_) (fun kq3 => ?_)
        · skip
          refine wp_iload G 1 dX10_lossBy_96 rfl ?_
          refine wp_bipush G dX10_lossBy_98 (by decide) ?_
          refine wp_idiv G (by omega) (by omega) (by omega) (by omega) dX10_lossBy_100 ?_
          refine wp_iadd G dX10_lossBy_101 ?_
          have hdd := hD (kd u) (by omega) (((g - (st 4 * farZ x y (hs 0 u) (hs 1 u))) / 10).toNat) (by omega)
          have hddm := mul_b hwu2 hdd
          have hix : ((10 * (kd u) + ((g - (st 4 * farZ x y (hs 0 u) (hs 1 u))) / 10).toNat : Nat)) / 10 = kd u ∧ ((10 * (kd u) + ((g - (st 4 * farZ x y (hs 0 u) (hs 1 u))) / 10).toNat : Nat)) % 10 = ((g - (st 4 * farZ x y (hs 0 u) (hs 1 u))) / 10).toNat := by omega
          refine wp_iald (j := 10 * (kd u) + ((g - (st 4 * farZ x y (hs 0 u) (hs 1 u))) / 10).toNat) G dX10_lossBy_102 h88 (by omega) (by omega) (by decide) ?_
          rw [hix.1, hix.2]
          refine wp_imul G dX10_lossBy_103 ?_
          refine wp_bipush G dX10_lossBy_104 (by decide) ?_
          refine wp_idiv G hddm.1 (by omega) (by omega) (by omega) dX10_lossBy_106 ?_
          refine wp_iadd G dX10_lossBy_107 ?_
          refine wp_istore (lv' := [(5, zI (sumZ (fun u => lsH hs dm u (asK kd s u) x y g (st 4)) u + ((((hs 2) u) * (dm (kd u) (((g - (st 4 * farZ x y (hs 0 u) (hs 1 u))) / 10).toNat))) / 100))), (8, zI ((kd u : Nat) : Int)), (7, zI (g - ((st 4) * farZ x y (hs 0 u) (hs 1 u)))), (0, zR 64), (1, zI x), (2, zI y), (3, zI g), (4, zI ((s : Nat) : Int)), (6, zI ((u : Nat) : Int))]) G dX10_lossBy_108 (by decide) rfl ?_
          refine wp_iinc (lv' := [(6, zI (((u : Nat) : Int) + 1)), (5, zI (sumZ (fun u => lsH hs dm u (asK kd s u) x y g (st 4)) u + ((((hs 2) u) * (dm (kd u) (((g - (st 4 * farZ x y (hs 0 u) (hs 1 u))) / 10).toNat))) / 100))), (8, zI ((kd u : Nat) : Int)), (7, zI (g - ((st 4) * farZ x y (hs 0 u) (hs 1 u)))), (0, zR 64), (1, zI x), (2, zI y), (3, zI g), (4, zI ((s : Nat) : Int))]) G 8 dX10_lossBy_110 rfl (by decide) rfl ?_
          refine wp_goto G dX10_lossBy_113 ?_
          refine wp_lv [4, 5, 6, 7, 8, 1, 0] rfl ?_
          exact ih6 (u + 1) (sumZ (fun u => lsH hs dm u (asK kd s u) x y g (st 4)) u + ((((hs 2) u) * (dm (kd u) (((g - (st 4 * farZ x y (hs 0 u) (hs 1 u))) / 10).toNat))) / 100)) (((u : Nat) : Int) + 1) (by omega) (by rw [sumZ]; exact congrArg (fun z => sumZ (fun u => lsH hs dm u (asK kd s u) x y g (st 4)) u + z) (lb_e (by first | (unfold asK; rw [if_pos (by omega)]; done) | (unfold asK; rw [if_neg (by omega)]; done)) (by unfold shk; first | (rw [Int.max_eq_left (by omega)]; rfl) | (rw [Int.max_eq_right (by omega)])))) (by omega) (by omega)
        · skip
          refine wp_iconst G dX10_lossBy_92 ?_
          refine wp_goto G dX10_lossBy_93 ?_
          refine wp_iadd G dX10_lossBy_101 ?_
          have hdd := hD (kd u) (by omega) (0) (by omega)
          have hddm := mul_b hwu2 hdd
          have hix : ((10 * (kd u) + 0 : Nat)) / 10 = kd u ∧ ((10 * (kd u) + 0 : Nat)) % 10 = 0 := by omega
          refine wp_iald (j := 10 * (kd u) + 0) G dX10_lossBy_102 h88 (by omega) (by omega) (by decide) ?_
          rw [hix.1, hix.2]
          refine wp_imul G dX10_lossBy_103 ?_
          refine wp_bipush G dX10_lossBy_104 (by decide) ?_
          refine wp_idiv G hddm.1 (by omega) (by omega) (by omega) dX10_lossBy_106 ?_
          refine wp_iadd G dX10_lossBy_107 ?_
          refine wp_istore (lv' := [(5, zI (sumZ (fun u => lsH hs dm u (asK kd s u) x y g (st 4)) u + ((((hs 2) u) * (dm (kd u) (0))) / 100))), (8, zI ((kd u : Nat) : Int)), (7, zI (g - ((st 4) * farZ x y (hs 0 u) (hs 1 u)))), (0, zR 64), (1, zI x), (2, zI y), (3, zI g), (4, zI ((s : Nat) : Int)), (6, zI ((u : Nat) : Int))]) G dX10_lossBy_108 (by decide) rfl ?_
          refine wp_iinc (lv' := [(6, zI (((u : Nat) : Int) + 1)), (5, zI (sumZ (fun u => lsH hs dm u (asK kd s u) x y g (st 4)) u + ((((hs 2) u) * (dm (kd u) (0))) / 100))), (8, zI ((kd u : Nat) : Int)), (7, zI (g - ((st 4) * farZ x y (hs 0 u) (hs 1 u)))), (0, zR 64), (1, zI x), (2, zI y), (3, zI g), (4, zI ((s : Nat) : Int))]) G 8 dX10_lossBy_110 rfl (by decide) rfl ?_
          refine wp_goto G dX10_lossBy_113 ?_
          refine wp_lv [4, 5, 6, 7, 8, 1, 0] rfl ?_
          exact ih6 (u + 1) (sumZ (fun u => lsH hs dm u (asK kd s u) x y g (st 4)) u + ((((hs 2) u) * (dm (kd u) (0))) / 100)) (((u : Nat) : Int) + 1) (by omega) (by rw [sumZ]; exact congrArg (fun z => sumZ (fun u => lsH hs dm u (asK kd s u) x y g (st 4)) u + z) (lb_e (by first | (unfold asK; rw [if_pos (by omega)]; done) | (unfold asK; rw [if_neg (by omega)]; done)) (by unfold shk; first | (rw [Int.max_eq_left (by omega)]; rfl) | (rw [Int.max_eq_right (by omega)])))) (by omega) (by omega)
      · skip
        refine wp_iconst G dX10_lossBy_56 ?_
        refine wp_goto G dX10_lossBy_57 ?_
        refine wp_istore (lv' := [(8, zI 3), (7, zI (g - ((st 4) * farZ x y (hs 0 u) (hs 1 u)))), (0, zR 64), (1, zI x), (2, zI y), (3, zI g), (4, zI ((s : Nat) : Int)), (5, zI (sumZ (fun u => lsH hs dm u (asK kd s u) x y g (st 4)) u)), (6, zI ((u : Nat) : Int))]) G dX10_lossBy_67 (by decide) rfl ?_
        refine wp_iload G 7 dX10_lossBy_69 rfl ?_
        refine wp_aload_n G 2 dX10_lossBy_71 rfl ?_
        refine wp_get G 25 cOk9 fX10_75 dX10_lossBy_72 h64 rfl ?_
        refine wp_iload G 8 dX10_lossBy_75 rfl ?_
        refine wp_iald (j := u) G dX10_lossBy_77 h86 rfl (by omega) (by decide) ?_
        have rrq6 := hH.2.2.2.1 u (by omega)
        refine wp_aload_n G 2 dX10_lossBy_78 rfl ?_
        refine wp_get G 28 cOk9 fX10_81 dX10_lossBy_79 h64 rfl ?_
        refine wp_bipush G dX10_lossBy_82 (by decide) ?_
        refine wp_iload G 0 dX10_lossBy_84 rfl ?_
        refine wp_imul G dX10_lossBy_86 ?_
        refine wp_iload G 1 dX10_lossBy_87 rfl ?_
        refine wp_if_ge G dX10_lossBy_89 (by omega) (fun kq4 => ?_) (fun kq4 => ?_)
        · skip
          refine wp_iload G 1 dX10_lossBy_96 rfl ?_
          refine wp_bipush G dX10_lossBy_98 (by decide) ?_
          refine wp_idiv G (by omega) (by omega) (by omega) (by omega) dX10_lossBy_100 ?_
          refine wp_iadd G dX10_lossBy_101 ?_
          have hdd := hD (3) (by omega) (((g - (st 4 * farZ x y (hs 0 u) (hs 1 u))) / 10).toNat) (by omega)
          have hddm := mul_b hwu2 hdd
          have hix : ((10 * (3) + ((g - (st 4 * farZ x y (hs 0 u) (hs 1 u))) / 10).toNat : Nat)) / 10 = 3 ∧ ((10 * (3) + ((g - (st 4 * farZ x y (hs 0 u) (hs 1 u))) / 10).toNat : Nat)) % 10 = ((g - (st 4 * farZ x y (hs 0 u) (hs 1 u))) / 10).toNat := by omega
          refine wp_iald (j := 10 * (3) + ((g - (st 4 * farZ x y (hs 0 u) (hs 1 u))) / 10).toNat) G dX10_lossBy_102 h88 (by omega) (by omega) (by decide) ?_
          rw [hix.1, hix.2]
          refine wp_imul G dX10_lossBy_103 ?_
          refine wp_bipush G dX10_lossBy_104 (by decide) ?_
          refine wp_idiv G hddm.1 (by omega) (by omega) (by omega) dX10_lossBy_106 ?_
          refine wp_iadd G dX10_lossBy_107 ?_
          refine wp_istore (lv' := [(5, zI (sumZ (fun u => lsH hs dm u (asK kd s u) x y g (st 4)) u + ((((hs 2) u) * (dm (3) (((g - (st 4 * farZ x y (hs 0 u) (hs 1 u))) / 10).toNat))) / 100))), (8, zI 3), (7, zI (g - ((st 4) * farZ x y (hs 0 u) (hs 1 u)))), (0, zR 64), (1, zI x), (2, zI y), (3, zI g), (4, zI ((s : Nat) : Int)), (6, zI ((u : Nat) : Int))]) G dX10_lossBy_108 (by decide) rfl ?_
          refine wp_iinc (lv' := [(6, zI (((u : Nat) : Int) + 1)), (5, zI (sumZ (fun u => lsH hs dm u (asK kd s u) x y g (st 4)) u + ((((hs 2) u) * (dm (3) (((g - (st 4 * farZ x y (hs 0 u) (hs 1 u))) / 10).toNat))) / 100))), (8, zI 3), (7, zI (g - ((st 4) * farZ x y (hs 0 u) (hs 1 u)))), (0, zR 64), (1, zI x), (2, zI y), (3, zI g), (4, zI ((s : Nat) : Int))]) G 8 dX10_lossBy_110 rfl (by decide) rfl ?_
          refine wp_goto G dX10_lossBy_113 ?_
          refine wp_lv [4, 5, 6, 7, 8, 1, 0] rfl ?_
          exact ih6 (u + 1) (sumZ (fun u => lsH hs dm u (asK kd s u) x y g (st 4)) u + ((((hs 2) u) * (dm (3) (((g - (st 4 * farZ x y (hs 0 u) (hs 1 u))) / 10).toNat))) / 100)) (((u : Nat) : Int) + 1) (by omega) (by rw [sumZ]; exact congrArg (fun z => sumZ (fun u => lsH hs dm u (asK kd s u) x y g (st 4)) u + z) (lb_e (by first | (unfold asK; rw [if_pos (by omega)]; done) | (unfold asK; rw [if_neg (by omega)]; done)) (by unfold shk; first | (rw [Int.max_eq_left (by omega)]; rfl) | (rw [Int.max_eq_right (by omega)])))) (by omega) (by omega)
        · skip
          refine wp_iconst G dX10_lossBy_92 ?_
          refine wp_goto G dX10_lossBy_93 ?_
          refine wp_iadd G dX10_lossBy_101 ?_
          have hdd := hD (3) (by omega) (0) (by omega)
          have hddm := mul_b hwu2 hdd
          have hix : ((10 * (3) + 0 : Nat)) / 10 = 3 ∧ ((10 * (3) + 0 : Nat)) % 10 = 0 := by omega
          refine wp_iald (j := 10 * (3) + 0) G dX10_lossBy_102 h88 (by omega) (by omega) (by decide) ?_
          rw [hix.1, hix.2]
          refine wp_imul G dX10_lossBy_103 ?_
          refine wp_bipush G dX10_lossBy_104 (by decide) ?_
          refine wp_idiv G hddm.1 (by omega) (by omega) (by omega) dX10_lossBy_106 ?_
          refine wp_iadd G dX10_lossBy_107 ?_
          refine wp_istore (lv' := [(5, zI (sumZ (fun u => lsH hs dm u (asK kd s u) x y g (st 4)) u + ((((hs 2) u) * (dm (3) (0))) / 100))), (8, zI 3), (7, zI (g - ((st 4) * farZ x y (hs 0 u) (hs 1 u)))), (0, zR 64), (1, zI x), (2, zI y), (3, zI g), (4, zI ((s : Nat) : Int)), (6, zI ((u : Nat) : Int))]) G dX10_lossBy_108 (by decide) rfl ?_
          refine wp_iinc (lv' := [(6, zI (((u : Nat) : Int) + 1)), (5, zI (sumZ (fun u => lsH hs dm u (asK kd s u) x y g (st 4)) u + ((((hs 2) u) * (dm (3) (0))) / 100))), (8, zI 3), (7, zI (g - ((st 4) * farZ x y (hs 0 u) (hs 1 u)))), (0, zR 64), (1, zI x), (2, zI y), (3, zI g), (4, zI ((s : Nat) : Int))]) G 8 dX10_lossBy_110 rfl (by decide) rfl ?_
          refine wp_goto G dX10_lossBy_113 ?_
          refine wp_lv [4, 5, 6, 7, 8, 1, 0] rfl ?_
          exact ih6 (u + 1) (sumZ (fun u => lsH hs dm u (asK kd s u) x y g (st 4)) u + ((((hs 2) u) * (dm (3) (0))) / 100)) (((u : Nat) : Int) + 1) (by omega) (by rw [sumZ]; exact congrArg (fun z => sumZ (fun u => lsH hs dm u (asK kd s u) x y g (st 4)) u + z) (lb_e (by first | (unfold asK; rw [if_pos (by omega)]; done) | (unfold asK; rw [if_neg (by omega)]; done)) (by unfold shk; first | (rw [Int.max_eq_left (by omega)]; rfl) | (rw [Int.max_eq_right (by omega)])))) (by omega) (by omega)

set_option maxRecDepth 100000 in
set_option maxHeartbeats 4000000 in
theorem t_X10_lossOf {nx : Nat} {h : Nat → Option PC} {n : Nat} {q : Nat → Nat → Int} {o : Nat → Nat} {fc : Nat} {hn : Nat} {ln : Nat} {ma : Int} {mb : Int} {st : Nat → Int} {hs : Nat → Nat → Int} {kd : Nat → Nat} {dm : Nat → Nat → Int} {lw : Nat → Nat → Int} {j : Nat} (hQ : isM h n q o fc hn ln ma mb st) (hO : okQ n q o) (hN : okN st) (hG : isMg h hs kd dm lw) (hH : okH hn hs kd) (hD : okD dm) (hL : okL ln lw) (hj : j < n) : Cx 3 (0, 0) yX10_lossOf cX10_lossOf 2 (some .int) [zR 64, zI ((j : Nat) : Int)] nx h (Rt (zI (lsQ hn hs kd dm q j (st 4))) nx []) := by
  refine cx_of pnX10_lossOf (Nat.le_of_ble_eq_true rfl) ?_
  intro K G hr hnm hR
  obtain ⟨h64, h65, h66, h67, h68, h69, h70, h71, h72, h73⟩ := id hQ
  have hn40 := hO.1
  obtain ⟨hN0, hN1, hN2, hN3, hN4⟩ := id hN
  obtain ⟨h83, h84, h85, h86, h87, h88, h89, h90, h91, h92⟩ := id hG
  have hn12 := hH.1
  have ln12 := hL.1
  have hxj := hO.x j hj
  have hyj := hO.y j hj
  have hgj := hO.g j hj
  show Wp K 2 (Mx K h (Rt (zI (lsQ hn hs kd dm q j (st 4))) nx []) (0, 0)) (0, 0) 0 [(0, zR 64), (1, zI ((j : Nat) : Int))] [] (nx, h, [])
  refine wp_aload_n G 0 dX10_lossOf_0 rfl ?_
  refine wp_aload_n G 0 dX10_lossOf_1 rfl ?_
  refine wp_get G 2 cOk9 fX10_16 dX10_lossOf_2 h64 rfl ?_
  refine wp_iload_n G 1 dX10_lossOf_5 rfl ?_
  refine wp_iald (j := j) G dX10_lossOf_6 h67 rfl (by omega) (by decide) ?_
  have rrq1 := hO.x j (by omega)
  refine wp_aload_n G 0 dX10_lossOf_7 rfl ?_
  refine wp_get G 3 cOk9 fX10_19 dX10_lossOf_8 h64 rfl ?_
  refine wp_iload_n G 1 dX10_lossOf_11 rfl ?_
  refine wp_iald (j := j) G dX10_lossOf_12 h68 rfl (by omega) (by decide) ?_
  have rrq2 := hO.y j (by omega)
  refine wp_aload_n G 0 dX10_lossOf_13 rfl ?_
  refine wp_get G 4 cOk9 fX10_22 dX10_lossOf_14 h64 rfl ?_
  refine wp_iload_n G 1 dX10_lossOf_17 rfl ?_
  refine wp_iald (j := j) G dX10_lossOf_18 h69 rfl (by omega) (by decide) ?_
  have rrq3 := hO.g j (by omega)
  refine wp_iconst G dX10_lossOf_19 ?_
  refine wp_cVE (b := 64) (ci := 9) (as := [zI ((q 2) j), zI ((q 3) j), zI ((q 4) j), zI 0]) (rest := []) (hp2 := (nx, h, [])) G mX10_lossBy lX10_299 iX10_lossBy eX10_lossBy ⟨_, rfl, rfl⟩ dX10_lossOf_20 h64 rfl rfl (Nat.le_of_ble_eq_true rfl) (rmx_ok hR (by decide) (by decide) (by decide) (by decide)) (t_X10_lossBy (nx := nx) (x := ((q 2) j)) (y := ((q 3) j)) (g := ((q 4) j)) (s := 0) hQ hO hN hG hH hD hL hxj hyj hgj (by omega)) rfl ?_
  exact wp_ireturn G hr dX10_lossOf_23 ⟨by rfl, rfl, by rfl⟩

set_option maxRecDepth 100000 in
set_option maxHeartbeats 4000000 in
theorem t_X10_lawLoss {nx : Nat} {h : Nat → Option PC} {n : Nat} {q : Nat → Nat → Int} {o : Nat → Nat} {fc : Nat} {hn : Nat} {ln : Nat} {ma : Int} {mb : Int} {st : Nat → Int} {hs : Nat → Nat → Int} {kd : Nat → Nat} {dm : Nat → Nat → Int} {lw : Nat → Nat → Int} {k : Nat} {s : Nat} (hQ : isM h n q o fc hn ln ma mb st) (hO : okQ n q o) (hN : okN st) (hG : isMg h hs kd dm lw) (hH : okH hn hs kd) (hD : okD dm) (hL : okL ln lw) (hk : k < ln) (h4 : s < 4096) : Cx 3 (0, 0) yX10_lawLoss cX10_lawLoss 3 (some .int) [zR 64, zI ((k : Nat) : Int), zI ((s : Nat) : Int)] nx h (Rt (zI (lsL hn hs kd dm lw k s (st 4))) nx []) := by
  refine cx_of pnX10_lawLoss (Nat.le_of_ble_eq_true rfl) ?_
  intro K G hr hnm hR
  obtain ⟨h64, h65, h66, h67, h68, h69, h70, h71, h72, h73⟩ := id hQ
  have hn40 := hO.1
  obtain ⟨hN0, hN1, hN2, hN3, hN4⟩ := id hN
  obtain ⟨h83, h84, h85, h86, h87, h88, h89, h90, h91, h92⟩ := id hG
  have hn12 := hH.1
  have ln12 := hL.1
  have hxj := hL.2.1 k hk
  have hyj := hL.2.2.1 k hk
  have hgj := hL.2.2.2.1 k hk
  show Wp K 3 (Mx K h (Rt (zI (lsL hn hs kd dm lw k s (st 4))) nx []) (0, 0)) (0, 0) 0 [(0, zR 64), (1, zI ((k : Nat) : Int)), (2, zI ((s : Nat) : Int))] [] (nx, h, [])
  refine wp_aload_n G 0 dX10_lawLoss_0 rfl ?_
  refine wp_aload_n G 0 dX10_lawLoss_1 rfl ?_
  refine wp_get G 29 cOk9 fX10_84 dX10_lawLoss_2 h64 rfl ?_
  refine wp_iload_n G 1 dX10_lawLoss_5 rfl ?_
  refine wp_iald (j := k) G dX10_lawLoss_6 h89 rfl (by omega) (by decide) ?_
  have rrq1 := hL.2.1 k (by omega)
  refine wp_aload_n G 0 dX10_lawLoss_7 rfl ?_
  refine wp_get G 30 cOk9 fX10_87 dX10_lawLoss_8 h64 rfl ?_
  refine wp_iload_n G 1 dX10_lawLoss_11 rfl ?_
  refine wp_iald (j := k) G dX10_lawLoss_12 h90 rfl (by omega) (by decide) ?_
  have rrq2 := hL.2.2.1 k (by omega)
  refine wp_aload_n G 0 dX10_lawLoss_13 rfl ?_
  refine wp_get G 31 cOk9 fX10_90 dX10_lawLoss_14 h64 rfl ?_
  refine wp_iload_n G 1 dX10_lawLoss_17 rfl ?_
  refine wp_iald (j := k) G dX10_lawLoss_18 h91 rfl (by omega) (by decide) ?_
  have rrq3 := hL.2.2.2.1 k (by omega)
  refine wp_iload_n G 2 dX10_lawLoss_19 rfl ?_
  refine wp_cVE (b := 64) (ci := 9) (as := [zI ((lw 0) k), zI ((lw 1) k), zI ((lw 2) k), zI ((s : Nat) : Int)]) (rest := []) (hp2 := (nx, h, [])) G mX10_lossBy lX10_299 iX10_lossBy eX10_lossBy ⟨_, rfl, rfl⟩ dX10_lawLoss_20 h64 rfl rfl (Nat.le_of_ble_eq_true rfl) (rmx_ok hR (by decide) (by decide) (by decide) (by decide)) (t_X10_lossBy (nx := nx) (x := ((lw 0) k)) (y := ((lw 1) k)) (g := ((lw 2) k)) (s := s) hQ hO hN hG hH hD hL hxj hyj hgj h4) rfl ?_
  exact wp_ireturn G hr dX10_lawLoss_23 ⟨by rfl, rfl, by rfl⟩

set_option maxRecDepth 100000 in
set_option maxHeartbeats 4000000 in
theorem t_X10_meanOf {nx : Nat} {h : Nat → Option PC} {n : Nat} {q : Nat → Nat → Int} {o : Nat → Nat} {fc : Nat} {hn : Nat} {ln : Nat} {ma : Int} {mb : Int} {st : Nat → Int} {hs : Nat → Nat → Int} {kd : Nat → Nat} {dm : Nat → Nat → Int} {lw : Nat → Nat → Int} {s : Nat} (hQ : isM h n q o fc hn ln ma mb st) (hO : okQ n q o) (hN : okN st) (hG : isMg h hs kd dm lw) (hH : okH hn hs kd) (hD : okD dm) (hL : okL ln lw) (h4 : s < 4096) : Cx 4 (0, 0) yX10_meanOf cX10_meanOf 5 (some .long) [zR 64, zI ((s : Nat) : Int)] nx h (Rt (zJ (meanF hn ln hs kd dm lw s (st 4) ln)) nx []) := by
  refine cx_of pnX10_meanOf (Nat.le_of_ble_eq_true rfl) ?_
  intro K G hr hnm hR
  obtain ⟨h64, h65, h66, h67, h68, h69, h70, h71, h72, h73⟩ := id hQ
  have hn40 := hO.1
  obtain ⟨hN0, hN1, hN2, hN3, hN4⟩ := id hN
  obtain ⟨h83, h84, h85, h86, h87, h88, h89, h90, h91, h92⟩ := id hG
  have hn12 := hH.1
  have ln12 := hL.1
  show Wp K 5 (Mx K h (Rt (zJ (meanF hn ln hs kd dm lw s (st 4) ln)) nx []) (0, 0)) (0, 0) 0 [(0, zR 64), (1, zI ((s : Nat) : Int))] [] (nx, h, [])
  refine wp_lconst (z := 0) G dX10_meanOf_0 (by decide) ?_
  refine wp_lstore_n (lv' := [(2, zJ 0), (0, zR 64), (1, zI ((s : Nat) : Int))]) G dX10_meanOf_1 (by decide) rfl ?_
  refine wp_iconst G dX10_meanOf_2 ?_
  refine wp_istore (lv' := [(4, zI 0), (2, zJ 0), (0, zR 64), (1, zI ((s : Nat) : Int))]) G dX10_meanOf_3 (by decide) rfl ?_
  refine wp_lv [2, 3, 1, 0] rfl ?_
  suffices lp5 : ∀ (fu : Nat) (k : Nat) (v2 : Int) (v4 : Int), ln - k < fu → (v2 = meanF hn ln hs kd dm lw s (st 4) k) → (v4 = ((k : Nat) : Int)) → (k ≤ ln) → Wp K 5 (Mx K h (Rt (zJ (meanF hn ln hs kd dm lw s (st 4) ln)) nx []) (0, 0)) (0, 0) 5 [(0, zR 64), (1, zI ((s : Nat) : Int)), (2, zJ v2), (4, zI v4)] [] (nx, h, []) from lp5 _ 0 0 0 (Nat.lt_succ_self _) (by rfl) (by omega) (by omega)
  intro fu
  induction fu with
  | zero => intro k v2 v4 hm; exact absurd hm (Nat.not_lt_zero _)
  | succ fu ih5 =>
    intro k v2 v4 hm5 e2 e4 hi0
    subst e2
    subst e4
    have hlb := fun z => lsL_b (s := s) (f := st 4) (k := k) hH hD hL z hN4
    refine wp_iload G 3 dX10_meanOf_5 rfl ?_
    refine wp_aload_n G 0 dX10_meanOf_7 rfl ?_
    refine wp_get G 33 cOk9 fX10_305 dX10_meanOf_8 h64 rfl ?_
    refine wp_icmp_ge G dX10_meanOf_11 (by omega) (by omega) (fun kq1 => ?_) (fun kq1 => ?_)
    · skip
      refine wp_lload_n G 2 dX10_meanOf_40 rfl ?_
      exact wp_lreturn G hr dX10_meanOf_41 ⟨by rw [show k = ln by omega], rfl, by rfl⟩
    · skip
      refine wp_lload_n G 2 dX10_meanOf_14 rfl ?_
      refine wp_aload_n G 0 dX10_meanOf_15 rfl ?_
      refine wp_get G 32 cOk9 fX10_93 dX10_meanOf_16 h64 rfl ?_
      refine wp_iload G 3 dX10_meanOf_19 rfl ?_
      refine wp_iald (j := k) G dX10_meanOf_21 h92 rfl (by omega) (by decide) ?_
      have rrq1 := hL.2.2.2.2 k (by omega)
      refine wp_i2l G (by omega) dX10_meanOf_22 ?_
      refine wp_aload_n G 0 dX10_meanOf_23 rfl ?_
      refine wp_iload G 3 dX10_meanOf_24 rfl ?_
      refine wp_iload_n G 1 dX10_meanOf_26 rfl ?_
      refine wp_cVE (b := 64) (ci := 9) (as := [zI ((k : Nat) : Int), zI ((s : Nat) : Int)]) (rest := [zJ ((lw 3) k), zJ (meanF hn ln hs kd dm lw s (st 4) k)]) (hp2 := (nx, h, [])) G mX10_lawLoss lX10_308 iX10_lawLoss eX10_lawLoss ⟨_, rfl, rfl⟩ dX10_meanOf_27 h64 rfl rfl (Nat.le_of_ble_eq_true rfl) (rmx_ok hR (by decide) (by decide) (by decide) (by decide)) (t_X10_lawLoss (nx := nx) (k := k) (s := s) hQ hO hN hG hH hD hL (by omega) h4) rfl ?_
      have hlb2 := hlb (by omega)
      refine wp_i2l G (by omega) dX10_meanOf_30 ?_
      refine wp_lmul G dX10_meanOf_31 ?_
      refine wp_ladd G dX10_meanOf_32 ?_
      refine wp_lstore_n (lv' := [(2, zJ (meanF hn ln hs kd dm lw s (st 4) k + (((lw 3) k) * lsL hn hs kd dm lw k s (st 4)))), (0, zR 64), (1, zI ((s : Nat) : Int)), (4, zI ((k : Nat) : Int))]) G dX10_meanOf_33 (by decide) rfl ?_
      refine wp_iinc (lv' := [(4, zI (((k : Nat) : Int) + 1)), (2, zJ (meanF hn ln hs kd dm lw s (st 4) k + (((lw 3) k) * lsL hn hs kd dm lw k s (st 4)))), (0, zR 64), (1, zI ((s : Nat) : Int))]) G 3 dX10_meanOf_34 rfl (by decide) rfl ?_
      refine wp_goto G dX10_meanOf_37 ?_
      refine wp_lv [2, 3, 1, 0] rfl ?_
      exact ih5 (k + 1) (meanF hn ln hs kd dm lw s (st 4) k + (((lw 3) k) * lsL hn hs kd dm lw k s (st 4))) (((k : Nat) : Int) + 1) (by omega) (by rfl) (by omega) (by omega)

set_option maxRecDepth 100000 in
set_option maxHeartbeats 4000000 in
theorem t_X10_priceOf {nx : Nat} {h : Nat → Option PC} {n : Nat} {q : Nat → Nat → Int} {o : Nat → Nat} {fc : Nat} {hn : Nat} {ln : Nat} {ma : Int} {mb : Int} {st : Nat → Int} {hs : Nat → Nat → Int} {kd : Nat → Nat} {dm : Nat → Nat → Int} {lw : Nat → Nat → Int} {s : Nat} (hQ : isM h n q o fc hn ln ma mb st) (hO : okQ n q o) (hN : okN st) (hG : isMg h hs kd dm lw) (hH : okH hn hs kd) (hD : okD dm) (hL : okL ln lw) (h4 : s < 4096) : Cx 0 (0, 0) yX10_priceOf cX10_priceOf 4 (some .int) [zR 64, zI ((s : Nat) : Int)] nx h (Rt (zI (sumZ (fun u => if s / 2 ^ u % 2 = 1 then hs 3 u else 0) hn)) nx []) := by
  refine cx_of pnX10_priceOf (Nat.le_of_ble_eq_true rfl) ?_
  intro K G hr hnm hR
  obtain ⟨h64, h65, h66, h67, h68, h69, h70, h71, h72, h73⟩ := id hQ
  have hn40 := hO.1
  obtain ⟨hN0, hN1, hN2, hN3, hN4⟩ := id hN
  obtain ⟨h83, h84, h85, h86, h87, h88, h89, h90, h91, h92⟩ := id hG
  have hn12 := hH.1
  have ln12 := hL.1
  show Wp K 4 (Mx K h (Rt (zI (sumZ (fun u => if s / 2 ^ u % 2 = 1 then hs 3 u else 0) hn)) nx []) (0, 0)) (0, 0) 0 [(0, zR 64), (1, zI ((s : Nat) : Int))] [] (nx, h, [])
  refine wp_iconst G dX10_priceOf_0 ?_
  refine wp_istore_n (lv' := [(2, zI 0), (0, zR 64), (1, zI ((s : Nat) : Int))]) G dX10_priceOf_1 (by decide) rfl ?_
  refine wp_iconst G dX10_priceOf_2 ?_
  refine wp_istore_n (lv' := [(3, zI 0), (2, zI 0), (0, zR 64), (1, zI ((s : Nat) : Int))]) G dX10_priceOf_3 (by decide) rfl ?_
  refine wp_lv [2, 3, 1, 0] rfl ?_
  suffices lp4 : ∀ (fu : Nat) (u : Nat) (v2 : Int) (v3 : Int), hn - u < fu → (v2 = sumZ (fun u => if s / 2 ^ u % 2 = 1 then hs 3 u else 0) u) → (v3 = ((u : Nat) : Int)) → (u ≤ hn) → Wp K 4 (Mx K h (Rt (zI (sumZ (fun u => if s / 2 ^ u % 2 = 1 then hs 3 u else 0) hn)) nx []) (0, 0)) (0, 0) 4 [(0, zR 64), (1, zI ((s : Nat) : Int)), (2, zI v2), (3, zI v3)] [] (nx, h, []) from lp4 _ 0 0 0 (Nat.lt_succ_self _) (by rfl) (by omega) (by omega)
  intro fu
  induction fu with
  | zero => intro u v2 v3 hm; exact absurd hm (Nat.not_lt_zero _)
  | succ fu ih4 =>
    intro u v2 v3 hm4 e2 e3 hi0
    subst e2
    subst e3
    refine wp_iload_n G 3 dX10_priceOf_4 rfl ?_
    refine wp_aload_n G 0 dX10_priceOf_5 rfl ?_
    refine wp_get G 27 cOk9 fX10_296 dX10_priceOf_6 h64 rfl ?_
    refine wp_icmp_ge G dX10_priceOf_9 (by omega) (by omega) (fun kq1 => ?_) (fun kq1 => ?_)
    · skip
      refine wp_iload_n G 2 dX10_priceOf_40 rfl ?_
      exact wp_ireturn G hr dX10_priceOf_41 ⟨by rw [show u = hn by omega], rfl, by rfl⟩
    · skip
      refine wp_iload_n G 2 dX10_priceOf_12 rfl ?_
      refine wp_iload_n G 1 dX10_priceOf_13 rfl ?_
      refine wp_iload_n G 3 dX10_priceOf_14 rfl ?_
      refine wp_ishr (a := s) (k := u) G rfl rfl (by omega) (by omega) dX10_priceOf_15 ?_
      have hdl : s / 2 ^ u ≤ s := Nat.div_le_self _ _
      refine wp_iconst G dX10_priceOf_16 ?_
      refine wp_iand1 (a := s / 2 ^ u) G rfl (by omega) dX10_priceOf_17 ?_
      refine wp_iconst G dX10_priceOf_18 ?_
      have hm2 : s / 2 ^ u % 2 < 2 := Nat.mod_lt _ (by omega)
      refine wp_icmp_ne G dX10_priceOf_19 (by omega) (by omega) (fun kq2 => ?_) (fun kq2 => ?_)
      · skip
        refine wp_iconst G dX10_priceOf_31 ?_
        refine wp_iadd G dX10_priceOf_32 ?_
        refine wp_istore_n (lv' := [(2, zI (sumZ (fun u => if s / 2 ^ u % 2 = 1 then hs 3 u else 0) u + 0)), (0, zR 64), (1, zI ((s : Nat) : Int)), (3, zI ((u : Nat) : Int))]) G dX10_priceOf_33 (by decide) rfl ?_
        refine wp_iinc (lv' := [(3, zI (((u : Nat) : Int) + 1)), (2, zI (sumZ (fun u => if s / 2 ^ u % 2 = 1 then hs 3 u else 0) u + 0)), (0, zR 64), (1, zI ((s : Nat) : Int))]) G 3 dX10_priceOf_34 rfl (by decide) rfl ?_
        refine wp_goto G dX10_priceOf_37 ?_
        refine wp_lv [2, 3, 1, 0] rfl ?_
        exact ih4 (u + 1) (sumZ (fun u => if s / 2 ^ u % 2 = 1 then hs 3 u else 0) u + 0) (((u : Nat) : Int) + 1) (by omega) (by rw [sumZ]; first | rw [if_pos (by omega)] | rw [if_neg (by omega)]) (by omega) (by omega)
      · skip
        refine wp_aload_n G 0 dX10_priceOf_22 rfl ?_
        refine wp_get G 26 cOk9 fX10_78 dX10_priceOf_23 h64 rfl ?_
        refine wp_iload_n G 3 dX10_priceOf_26 rfl ?_
        refine wp_iald (j := u) G dX10_priceOf_27 h87 rfl (by omega) (by decide) ?_
        have rrq1 := hH.2.2.2.2.1 u (by omega)
        refine wp_goto G dX10_priceOf_28 ?_
        refine wp_iadd G dX10_priceOf_32 ?_
        refine wp_istore_n (lv' := [(2, zI (sumZ (fun u => if s / 2 ^ u % 2 = 1 then hs 3 u else 0) u + ((hs 3) u))), (0, zR 64), (1, zI ((s : Nat) : Int)), (3, zI ((u : Nat) : Int))]) G dX10_priceOf_33 (by decide) rfl ?_
        refine wp_iinc (lv' := [(3, zI (((u : Nat) : Int) + 1)), (2, zI (sumZ (fun u => if s / 2 ^ u % 2 = 1 then hs 3 u else 0) u + ((hs 3) u))), (0, zR 64), (1, zI ((s : Nat) : Int))]) G 3 dX10_priceOf_34 rfl (by decide) rfl ?_
        refine wp_goto G dX10_priceOf_37 ?_
        refine wp_lv [2, 3, 1, 0] rfl ?_
        exact ih4 (u + 1) (sumZ (fun u => if s / 2 ^ u % 2 = 1 then hs 3 u else 0) u + ((hs 3) u)) (((u : Nat) : Int) + 1) (by omega) (by rw [sumZ]; first | rw [if_pos (by omega)] | rw [if_neg (by omega)]) (by omega) (by omega)

