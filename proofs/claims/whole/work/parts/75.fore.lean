def cpS (sm : Nat → Int) (fc k : Nat) : Nat → Int := fun i => if 48 * fc ≤ i ∧ i < 48 * fc + k then sm (288 + (i - 48 * fc)) else sm i
theorem cp_0 (sm : Nat → Int) (fc : Nat) : sm = cpS sm fc 0 := by
  funext i
  unfold cpS
  rw [if_neg (by omega)]
theorem cp_s (sm : Nat → Int) (fc k : Nat) : fup (cpS sm fc k) (48 * fc + k) (sm (288 + k)) = cpS sm fc (k + 1) := by
  funext i
  by_cases e : i = 48 * fc + k
  · subst e
    rw [fup_self]
    unfold cpS
    rw [if_pos (by omega), Nat.add_sub_cancel_left]
  · rw [fup_ne _ _ e]
    unfold cpS
    by_cases c : 48 * fc ≤ i ∧ i < 48 * fc + k
    · rw [if_pos c, if_pos (by omega)]
    · rw [if_neg c, if_neg (by omega)]

set_option maxRecDepth 100000 in
set_option maxHeartbeats 4000000 in
theorem t_X10_forecast {nx : Nat} {h : Nat → Option PC} {n : Nat} {q : Nat → Nat → Int} {o : Nat → Nat} {fc : Nat} {hn : Nat} {ln : Nat} {ma : Int} {mb : Int} {st : Nat → Int} {sm : Nat → Int} {sl : Nat → Nat} {ri : Nat → Int} {sg : Nat → Int} (hQ : isM h n q o fc hn ln ma mb st) (hO : okQ n q o) (hN : okN st) (hT : isMt h sm sl ri) (hsl : ∀ f, f < 7 → sl f ≤ 48) (hsm : ∀ i, i < sl 6 → sm (288 + i) = sg i) (hsg : ∀ i, i < sl 6 → 33 ≤ sg i ∧ sg i ≤ 126) (hfc : fc ≤ 6) : Cx 3 (0, 0) yX10_forecast cX10_forecast 2 (some .int) [zR 64] nx h (fun rr nx' l' => nx' = nx ∧ ((fc = 6 ∧ rr = some (zI (-4)) ∧ l' = []) ∨ (fc < 6 ∧ fltZ sg (sl 6) ≠ -6 ∧ rr = some (zI (-5)) ∧ l' = []) ∨ (fc < 6 ∧ fltZ sg (sl 6) = -6 ∧ rr = some (zI ((fc : Nat) : Int)) ∧ l' = [(80, oA 0 336 (cpS sm fc (sl 6))), (81, oA 0 7 (fup (fup (fun f => ((sl f : Nat) : Int)) fc ((sl 6 : Nat) : Int)) 6 0)), (64, oO 9 [zR 65, zR 66, zR 67, zR 68, zR 69, zR 70, zR 71, zI ((n : Nat) : Int), zR 72, zR 73, zR 74, zR 75, zI ma, zI mb, zR 76, zR 77, zR 78, zR 79, zR 80, zR 81, zI (((fc : Nat) : Int) + 1), zR 82, zR 83, zR 84, zR 85, zR 86, zR 87, zI ((hn : Nat) : Int), zR 88, zR 89, zR 90, zR 91, zR 92, zI ((ln : Nat) : Int)])]))) := by
  refine cx_of pnX10_forecast (Nat.le_of_ble_eq_true rfl) ?_
  intro K G hr hnm hR
  obtain ⟨h64, h65, h66, h67, h68, h69, h70, h71, h72, h73⟩ := id hQ
  have hn40 := hO.1
  obtain ⟨hN0, hN1, hN2, hN3, hN4⟩ := id hN
  obtain ⟨h80, h81, h82⟩ := id hT
  have hsl6 := hsl 6 (by decide)
  have hflb := flt_b sg (sl 6)
  show Wp K 2 (Mx K h (fun rr nx' l' => nx' = nx ∧ ((fc = 6 ∧ rr = some (zI (-4)) ∧ l' = []) ∨ (fc < 6 ∧ fltZ sg (sl 6) ≠ -6 ∧ rr = some (zI (-5)) ∧ l' = []) ∨ (fc < 6 ∧ fltZ sg (sl 6) = -6 ∧ rr = some (zI ((fc : Nat) : Int)) ∧ l' = [(80, oA 0 336 (cpS sm fc (sl 6))), (81, oA 0 7 (fup (fup (fun f => ((sl f : Nat) : Int)) fc ((sl 6 : Nat) : Int)) 6 0)), (64, oO 9 [zR 65, zR 66, zR 67, zR 68, zR 69, zR 70, zR 71, zI ((n : Nat) : Int), zR 72, zR 73, zR 74, zR 75, zI ma, zI mb, zR 76, zR 77, zR 78, zR 79, zR 80, zR 81, zI (((fc : Nat) : Int) + 1), zR 82, zR 83, zR 84, zR 85, zR 86, zR 87, zI ((hn : Nat) : Int), zR 88, zR 89, zR 90, zR 91, zR 92, zI ((ln : Nat) : Int)])]))) (0, 0)) (0, 0) 0 [(0, zR 64)] [] (nx, h, [])
  refine wp_aload_n G 0 dX10_forecast_0 rfl ?_
  refine wp_get G 20 cOk9 fX10_264 dX10_forecast_1 h64 rfl ?_
  refine wp_bipush G dX10_forecast_4 (by decide) ?_
  refine wp_icmp_ne G dX10_forecast_6 (by omega) (by omega) (fun kq1 => ?_) (fun kq1 => ?_)
  · skip
    refine wp_aload_n G 0 dX10_forecast_12 rfl ?_
    refine wp_cVE (b := 64) (ci := 9) (as := []) (rest := []) (hp2 := (nx, h, [])) G mX10_fault lX10_267 iX10_fault eX10_fault ⟨_, rfl, rfl⟩ dX10_forecast_13 h64 rfl rfl (Nat.le_of_ble_eq_true rfl) (rmx_ok hR (by decide) (by decide) (by decide) (by decide)) (t_X10_fault (nx := nx)  hQ hO hN hT hsl hsm hsg) rfl ?_
    refine wp_if_lt G dX10_forecast_16 (by omega) (fun kq2 => ?_) (fun kq2 => ?_)
    · skip
      refine wp_iconst G dX10_forecast_22 ?_
      refine wp_istore_n (lv' := [(1, zI 0), (0, zR 64)]) G dX10_forecast_23 (by decide) rfl ?_
      refine wp_own (r := 80) (hp2 := (nx, h, [(80, oA 0 336 sm)])) h80 rfl ?_
      refine wp_lv [1, 0] rfl ?_
      suffices lp24 : ∀ (fu : Nat) (k : Nat) (v1 : Int) (A80 : Nat → Int), sl 6 - k < fu → (v1 = ((k : Nat) : Int)) → (A80 = cpS sm fc k) → (k ≤ sl 6) → Wp K 2 (Mx K h (fun rr nx' l' => nx' = nx ∧ ((fc = 6 ∧ rr = some (zI (-4)) ∧ l' = []) ∨ (fc < 6 ∧ fltZ sg (sl 6) ≠ -6 ∧ rr = some (zI (-5)) ∧ l' = []) ∨ (fc < 6 ∧ fltZ sg (sl 6) = -6 ∧ rr = some (zI ((fc : Nat) : Int)) ∧ l' = [(80, oA 0 336 (cpS sm fc (sl 6))), (81, oA 0 7 (fup (fup (fun f => ((sl f : Nat) : Int)) fc ((sl 6 : Nat) : Int)) 6 0)), (64, oO 9 [zR 65, zR 66, zR 67, zR 68, zR 69, zR 70, zR 71, zI ((n : Nat) : Int), zR 72, zR 73, zR 74, zR 75, zI ma, zI mb, zR 76, zR 77, zR 78, zR 79, zR 80, zR 81, zI (((fc : Nat) : Int) + 1), zR 82, zR 83, zR 84, zR 85, zR 86, zR 87, zI ((hn : Nat) : Int), zR 88, zR 89, zR 90, zR 91, zR 92, zI ((ln : Nat) : Int)])]))) (0, 0)) (0, 0) 24 [(0, zR 64), (1, zI v1)] [] (nx, h, [(80, oA 0 336 A80)]) from lp24 _ 0 0 sm (Nat.lt_succ_self _) (by omega) (by exact cp_0 sm fc) (by omega)
      intro fu
      induction fu with
      | zero => intro k v1 A80 hm; exact absurd hm (Nat.not_lt_zero _)
      | succ fu ih24 =>
        intro k v1 A80 hm24 e1 eA80 hi0
        subst e1
        subst eA80
        refine wp_iload_n G 1 dX10_forecast_24 rfl ?_
        refine wp_aload_n G 0 dX10_forecast_25 rfl ?_
        refine wp_get G 19 cOk9 fX10_60 dX10_forecast_26 h64 rfl ?_
        refine wp_bipush G dX10_forecast_29 (by decide) ?_
        refine wp_iald (j := 6) G dX10_forecast_31 h81 rfl (by decide) (by decide) ?_
        refine wp_icmp_ge G dX10_forecast_32 (by omega) (by omega) (fun kq3 => ?_) (fun kq3 => ?_)
        · skip
          have ek : k = sl 6 := (by omega)
          subst k
          refine wp_aload_n G 0 dX10_forecast_65 rfl ?_
          refine wp_get G 19 cOk9 fX10_60 dX10_forecast_66 h64 rfl ?_
          refine wp_aload_n G 0 dX10_forecast_69 rfl ?_
          refine wp_get G 20 cOk9 fX10_264 dX10_forecast_70 h64 rfl ?_
          refine wp_aload_n G 0 dX10_forecast_73 rfl ?_
          refine wp_get G 19 cOk9 fX10_60 dX10_forecast_74 h64 rfl ?_
          refine wp_bipush G dX10_forecast_77 (by decide) ?_
          refine wp_iald (j := 6) G dX10_forecast_79 h81 rfl (by decide) (by decide) ?_
          refine wp_iastE (j := fc) (hp2 := (nx, h, [(80, oA 0 336 (cpS sm fc (sl 6))), (81, oA 0 7 (fup (fun f => ((sl f : Nat) : Int)) fc ((sl 6 : Nat) : Int)))])) G dX10_forecast_80 h81 rfl (by omega) (by decide) rfl ?_
          refine wp_aload_n G 0 dX10_forecast_81 rfl ?_
          refine wp_get G 19 cOk9 fX10_60 dX10_forecast_82 h64 rfl ?_
          refine wp_bipush G dX10_forecast_85 (by decide) ?_
          refine wp_iconst G dX10_forecast_87 ?_
          refine wp_iastE (j := 6) (hp2 := (nx, h, [(80, oA 0 336 (cpS sm fc (sl 6))), (81, oA 0 7 (fup (fup (fun f => ((sl f : Nat) : Int)) fc ((sl 6 : Nat) : Int)) 6 0))])) G dX10_forecast_88 rfl rfl (by decide) (by decide) rfl ?_
          refine wp_aload_n G 0 dX10_forecast_89 rfl ?_
          refine wp_dup G rfl dX10_forecast_90 ?_
          refine wp_get G 20 cOk9 fX10_264 dX10_forecast_91 h64 rfl ?_
          refine wp_iconst G dX10_forecast_94 ?_
          refine wp_iadd G dX10_forecast_95 ?_
          refine wp_putE (hp2 := (nx, h, [(80, oA 0 336 (cpS sm fc (sl 6))), (81, oA 0 7 (fup (fup (fun f => ((sl f : Nat) : Int)) fc ((sl 6 : Nat) : Int)) 6 0)), (64, oO 9 [zR 65, zR 66, zR 67, zR 68, zR 69, zR 70, zR 71, zI ((n : Nat) : Int), zR 72, zR 73, zR 74, zR 75, zI ma, zI mb, zR 76, zR 77, zR 78, zR 79, zR 80, zR 81, zI (((fc : Nat) : Int) + 1), zR 82, zR 83, zR 84, zR 85, zR 86, zR 87, zI ((hn : Nat) : Int), zR 88, zR 89, zR 90, zR 91, zR 92, zI ((ln : Nat) : Int)])])) G 20 cOk9 fX10_264 dX10_forecast_96 h64 (Nat.le_of_ble_eq_true rfl) (fit_int _) (fun _ e => by cases e; rfl) rfl ?_
          refine wp_aload_n G 0 dX10_forecast_99 rfl ?_
          refine wp_get G 20 cOk9 fX10_264 dX10_forecast_100 rfl rfl ?_
          refine wp_iconst G dX10_forecast_103 ?_
          refine wp_isub G dX10_forecast_104 ?_
          exact wp_ireturn G hr dX10_forecast_105 (by exact ⟨rfl, Or.inr (Or.inr ⟨by omega, by omega, by rw [Int.add_sub_cancel], rfl⟩)⟩)
        · skip
          refine wp_aload_n G 0 dX10_forecast_35 rfl ?_
          refine wp_get G 18 cOk9 fX10_57 dX10_forecast_36 h64 rfl ?_
          refine wp_bipush G dX10_forecast_39 (by decide) ?_
          refine wp_aload_n G 0 dX10_forecast_41 rfl ?_
          refine wp_get G 20 cOk9 fX10_264 dX10_forecast_42 h64 rfl ?_
          refine wp_imul G dX10_forecast_45 ?_
          refine wp_iload_n G 1 dX10_forecast_46 rfl ?_
          refine wp_iadd G dX10_forecast_47 ?_
          refine wp_aload_n G 0 dX10_forecast_48 rfl ?_
          refine wp_get G 18 cOk9 fX10_57 dX10_forecast_49 h64 rfl ?_
          refine wp_sipush G dX10_forecast_52 (by decide) ?_
          refine wp_iload_n G 1 dX10_forecast_55 rfl ?_
          refine wp_iadd G dX10_forecast_56 ?_
          refine wp_iald (j := 288 + k) G dX10_forecast_57 rfl (by omega) (by omega) (by decide) ?_
          rw [show ((cpS sm fc k) (288 + k)) = (sm (288 + k)) from if_neg (by omega)]
          refine wp_iastE (j := 48 * fc + k) (hp2 := (nx, h, [(80, oA 0 336 (fup (cpS sm fc k) (48 * fc + k) (sm (288 + k))))])) G dX10_forecast_58 rfl (by omega) (by omega) (by decide) rfl ?_
          refine wp_iinc (lv' := [(1, zI (((k : Nat) : Int) + 1)), (0, zR 64)]) G 1 dX10_forecast_59 rfl (by decide) rfl ?_
          refine wp_goto G dX10_forecast_62 ?_
          refine wp_lv [1, 0] rfl ?_
          exact ih24 (k + 1) (((k : Nat) : Int) + 1) (fup (cpS sm fc k) (48 * fc + k) (sm (288 + k))) (by omega) (by omega) (by exact cp_s sm fc k) (by omega)
    · skip
      refine wp_bipush G dX10_forecast_19 (by decide) ?_
      exact wp_ireturn G hr dX10_forecast_21 (by exact ⟨rfl, Or.inr (Or.inl ⟨by omega, by omega, rfl, rfl⟩)⟩)
  · skip
    refine wp_bipush G dX10_forecast_9 (by decide) ?_
    exact wp_ireturn G hr dX10_forecast_11 (by exact ⟨rfl, Or.inl ⟨by omega, rfl, rfl⟩⟩)

