noncomputable def ansL (n : Nat) (q : Nat → Nat → Int) (hn : Nat) (hs : Nat → Nat → Int) (kd : Nat → Nat) (dm : Nat → Nat → Int) (st : Nat → Int) (v : Int) : Int := if 0 ≤ v ∧ v < ((n : Nat) : Int) then lsQ hn hs kd dm q v.toNat (st 4) else -1
noncomputable def ansX (n : Nat) (q : Nat → Nat → Int) (o : Nat → Nat) (hn : Nat) (hs : Nat → Nat → Int) (kd : Nat → Nat) (dm : Nat → Nat → Int) (st : Nat → Int) (b w : Int) : Int := if ¬ ((0 ≤ b ∧ b ≤ 3999) ∧ (0 ≤ w ∧ w ≤ 1)) then -2 else if w = 0 then (wsF o (cnd q (-1) b) (fun j => lsQ hn hs kd dm q j (st 4)) n).1 else if 0 ≤ (wsF o (cnd q (-1) b) (fun j => lsQ hn hs kd dm q j (st 4)) n).1 then lsQ hn hs kd dm q (wsF o (cnd q (-1) b) (fun j => lsQ hn hs kd dm q j (st 4)) n).1.toNat (st 4) else 0
theorem ws_c {n : Nat} {q : Nat → Nat → Int} {o : Nat → Nat} {hn : Nat} {hs : Nat → Nat → Int} {kd : Nat → Nat} {dm : Nat → Nat → Int} {b f : Int} {k : Nat} (hH : okH hn hs kd) (hD : okD dm) (hO : okQ n q o) (hf : 0 ≤ f ∧ f ≤ 20) (hk : k ≤ n) : ((wsF o (cnd q (-1) b) (fun j => lsQ hn hs kd dm q j f) k).1 = -6 ∧ (wsF o (cnd q (-1) b) (fun j => lsQ hn hs kd dm q j f) k).2 = -1) ∨ ((0 ≤ (wsF o (cnd q (-1) b) (fun j => lsQ hn hs kd dm q j f) k).1 ∧ (wsF o (cnd q (-1) b) (fun j => lsQ hn hs kd dm q j f) k).1 < ((n : Nat) : Int)) ∧ (wsF o (cnd q (-1) b) (fun j => lsQ hn hs kd dm q j f) k).2 = lsQ hn hs kd dm q (wsF o (cnd q (-1) b) (fun j => lsQ hn hs kd dm q j f) k).1.toNat f) := by
  induction k with
  | zero => exact Or.inl ⟨rfl, rfl⟩
  | succ k ih =>
    have ih := ih (by omega)
    by_cases c : cnd q (-1) b (o k) ∧ (wsF o (cnd q (-1) b) (fun j => lsQ hn hs kd dm q j f) k).2 < lsQ hn hs kd dm q (o k) f
    · rw [wsF_y c.1 c.2]
      have := hO.o k (by omega)
      refine Or.inr ⟨?_, ?_⟩
      · show 0 ≤ ((o k : Nat) : Int) ∧ ((o k : Nat) : Int) < ((n : Nat) : Int)
        omega
      · simp only [Int.toNat_natCast]
    · rw [wsF_n c]
      exact ih
noncomputable def ansK (hn : Nat) (hs : Nat → Nat → Int) (kd : Nat → Nat) (dm lw : Nat → Nat → Int) (ln : Nat) (st : Nat → Int) (l : Int) : Int := if ¬ (0 ≤ l ∧ l ≤ 1000000) then -2 else sumZ (fun k => ifZ (l < lsL hn hs kd dm lw k 0 (st 4)) (lw 3 k) 0) ln
def ansE (hn : Nat) (hs : Nat → Nat → Int) (kd : Nat → Nat) (dm lw : Nat → Nat → Int) (ln : Nat) (st : Nat → Int) (v : Int) : Int := if 0 ≤ v ∧ v ≤ ((2 ^ hn : Nat) : Int) - 1 then meanF hn ln hs kd dm lw v.toNat (st 4) ln else -1000000000000000002
noncomputable def ansT (n : Nat) (q : Nat → Nat → Int) (st : Nat → Int) (sc fc hn ln : Nat) (v : Int) : Int := if v = 0 then ((n : Nat) : Int) else if v = 1 then ((sc : Nat) : Int) else if v = 2 then ((fc : Nat) : Int) else if v = 3 then ((hn : Nat) : Int) else if v = 4 then ((ln : Nat) : Int) else if v = 5 then cntZ (fun j => q 6 j = 1) n else if 10 ≤ v ∧ v ≤ 14 then st (v - 10).toNat else -2

set_option maxRecDepth 100000 in
set_option maxHeartbeats 4000000 in
theorem t_X9_house {nx : Nat} {h : Nat → Option PC} {n : Nat} {q : Nat → Nat → Int} {o : Nat → Nat} {hn : Nat} {hs : Nat → Nat → Int} {kd : Nat → Nat} {dm : Nat → Nat → Int} {ln : Nat} {lw : Nat → Nat → Int} {gn : Nat → Int} {fc : Nat} {st : Nat → Int} {x : Int} {y : Int} {k : Int} {w : Int} {p : Int} (hQ : isQ h n q o) (hO : okQ n q o) (hG : isG h hn hs kd dm ln lw gn) (hH : okH hn hs kd) (hD : okD dm) (hL : okL ln lw) (h0 : h 0 = some (oO 8 [zR 1, zR 2, zR 11, zR 34, zR 36, zR 42, zR 44, zI ((fc : Nat) : Int), zR 45, zR 48])) (h1 : h 1 = some (oA 0 5 st)) (hN : okN st) (ri_x : r32 x) (ri_y : r32 y) (ri_k : r32 k) (ri_w : r32 w) (ri_p : r32 p) : Cx 2 (0, 0) yX9_house cX9_house 6 (some .int) [zR 0, zI x, zI y, zI k, zI w, zI p] nx h (fun rr nx' l' => nx' = nx ∧ ((¬ ((0 ≤ x ∧ x ≤ 15) ∧ (0 ≤ y ∧ y ≤ 15)) ∧ rr = some (zI (-1)) ∧ l' = []) ∨ (((0 ≤ x ∧ x ≤ 15) ∧ (0 ≤ y ∧ y ≤ 15)) ∧ ¬ ((0 ≤ k ∧ k ≤ 2) ∧ (0 ≤ w ∧ w ≤ 10000) ∧ (0 ≤ p ∧ p ≤ 100)) ∧ rr = some (zI (-2)) ∧ l' = []) ∨ (((0 ≤ x ∧ x ≤ 15) ∧ (0 ≤ y ∧ y ≤ 15)) ∧ ((0 ≤ k ∧ k ≤ 2) ∧ (0 ≤ w ∧ w ≤ 10000) ∧ (0 ≤ p ∧ p ≤ 100)) ∧ hn = 12 ∧ rr = some (zI (-4)) ∧ l' = []) ∨ (((0 ≤ x ∧ x ≤ 15) ∧ (0 ≤ y ∧ y ≤ 15)) ∧ ((0 ≤ k ∧ k ≤ 2) ∧ (0 ≤ w ∧ w ≤ 10000) ∧ (0 ≤ p ∧ p ≤ 100)) ∧ hn < 12 ∧ rr = some (zI (((hn : Nat) : Int))) ∧ l' = [(48, oO 2 [zI (((hn : Nat) : Int) + 1), zR 49, zR 50, zR 51, zR 52, zR 53, zR 54, zI ((ln : Nat) : Int), zR 59, zR 60, zR 61, zR 62, zR 63]), (53, oA 0 12 (fup (hs 3) hn p)), (52, oA 0 12 (fup (hs 2) hn w)), (51, oA 0 12 (fup (fun u => ((kd u : Nat) : Int)) hn k)), (50, oA 0 12 (fup (hs 1) hn y)), (49, oA 0 12 (fup (hs 0) hn x))]))) := by
  refine cx_of pnX9_house (Nat.le_of_ble_eq_true rfl) ?_
  intro K G hr hnm hR
  obtain ⟨h2, h3, h4, h5, h6, h7, h8, h9, h10⟩ := id hQ
  have hn40 := hO.1
  obtain ⟨h48, h49, h50, h51, h52, h53, h54, h55, h56, h57, h58, h59, h60, h61, h62, h63⟩ := id hG
  have hn12 := hH.1
  have ln12 := hL.1
  obtain ⟨hN0, hN1, hN2, hN3, hN4⟩ := id hN
  show Wp K 6 (Mx K h (fun rr nx' l' => nx' = nx ∧ ((¬ ((0 ≤ x ∧ x ≤ 15) ∧ (0 ≤ y ∧ y ≤ 15)) ∧ rr = some (zI (-1)) ∧ l' = []) ∨ (((0 ≤ x ∧ x ≤ 15) ∧ (0 ≤ y ∧ y ≤ 15)) ∧ ¬ ((0 ≤ k ∧ k ≤ 2) ∧ (0 ≤ w ∧ w ≤ 10000) ∧ (0 ≤ p ∧ p ≤ 100)) ∧ rr = some (zI (-2)) ∧ l' = []) ∨ (((0 ≤ x ∧ x ≤ 15) ∧ (0 ≤ y ∧ y ≤ 15)) ∧ ((0 ≤ k ∧ k ≤ 2) ∧ (0 ≤ w ∧ w ≤ 10000) ∧ (0 ≤ p ∧ p ≤ 100)) ∧ hn = 12 ∧ rr = some (zI (-4)) ∧ l' = []) ∨ (((0 ≤ x ∧ x ≤ 15) ∧ (0 ≤ y ∧ y ≤ 15)) ∧ ((0 ≤ k ∧ k ≤ 2) ∧ (0 ≤ w ∧ w ≤ 10000) ∧ (0 ≤ p ∧ p ≤ 100)) ∧ hn < 12 ∧ rr = some (zI (((hn : Nat) : Int))) ∧ l' = [(48, oO 2 [zI (((hn : Nat) : Int) + 1), zR 49, zR 50, zR 51, zR 52, zR 53, zR 54, zI ((ln : Nat) : Int), zR 59, zR 60, zR 61, zR 62, zR 63]), (53, oA 0 12 (fup (hs 3) hn p)), (52, oA 0 12 (fup (hs 2) hn w)), (51, oA 0 12 (fup (fun u => ((kd u : Nat) : Int)) hn k)), (50, oA 0 12 (fup (hs 1) hn y)), (49, oA 0 12 (fup (hs 0) hn x))]))) (0, 0)) (0, 0) 0 [(0, zR 0), (1, zI x), (2, zI y), (3, zI k), (4, zI w), (5, zI p)] [] (nx, h, [])
  refine wp_iload_n G 1 dX9_house_0 rfl ?_
  refine wp_iload_n G 2 dX9_house_1 rfl ?_
  refine wp_cSE (as := [zI x, zI y]) (rest := []) (hp2 := (nx, h, [])) G mX9_isCell lX9_76 sX9_isCell dX9_house_2 rfl rfl (Nat.le_of_ble_eq_true rfl) (rmx_ok hR (by decide) (by decide) (by decide) (by decide)) (t_X9_isCell (nx := nx) (v := x) (w := y) (by omega) (by omega)) rfl ?_
  refine wp_ifne_bt G dX9_house_5 (fun kq1 => ?_) (fun kq1 => ?_)
  · skip
    refine wp_iload_n G 3 dX9_house_10 rfl ?_
    refine wp_iconst G dX9_house_11 ?_
    refine wp_iconst G dX9_house_12 ?_
    refine wp_cSE (as := [zI k, zI 0, zI 2]) (rest := []) (hp2 := (nx, h, [])) G mX9_within lX9_127 sX9_within dX9_house_13 rfl rfl (Nat.le_of_ble_eq_true rfl) (rmx_ok hR (by decide) (by decide) (by decide) (by decide)) (t_X9_within (nx := nx) (v := k) (lo := 0) (hi := 2) (by omega) (by omega) (by omega)) rfl ?_
    refine wp_ifeq_bt G dX9_house_16 (fun kq2 => ?_) (fun kq2 => ?_)
    · skip
      refine wp_bipush G dX9_house_42 (by decide) ?_
      exact wp_ireturn G hr dX9_house_44 (by exact ⟨rfl, Or.inr (Or.inl (⟨by omega, by omega, rfl, rfl⟩))⟩)
    · skip
      refine wp_iload G 4 dX9_house_19 rfl ?_
      refine wp_iconst G dX9_house_21 ?_
      refine wp_sipush G dX9_house_22 (by decide) ?_
      refine wp_cSE (as := [zI w, zI 0, zI 10000]) (rest := []) (hp2 := (nx, h, [])) G mX9_within lX9_127 sX9_within dX9_house_25 rfl rfl (Nat.le_of_ble_eq_true rfl) (rmx_ok hR (by decide) (by decide) (by decide) (by decide)) (t_X9_within (nx := nx) (v := w) (lo := 0) (hi := 10000) (by omega) (by omega) (by omega)) rfl ?_
      refine wp_ifeq_bt G dX9_house_28 (fun kq3 => ?_) (fun kq3 => ?_)
      · skip
        refine wp_bipush G dX9_house_42 (by decide) ?_
        exact wp_ireturn G hr dX9_house_44 (by exact ⟨rfl, Or.inr (Or.inl (⟨by omega, by omega, rfl, rfl⟩))⟩)
      · skip
        refine wp_iload G 5 dX9_house_31 rfl ?_
        refine wp_iconst G dX9_house_33 ?_
        refine wp_bipush G dX9_house_34 (by decide) ?_
        refine wp_cSE (as := [zI p, zI 0, zI 100]) (rest := []) (hp2 := (nx, h, [])) G mX9_within lX9_127 sX9_within dX9_house_36 rfl rfl (Nat.le_of_ble_eq_true rfl) (rmx_ok hR (by decide) (by decide) (by decide) (by decide)) (t_X9_within (nx := nx) (v := p) (lo := 0) (hi := 100) (by omega) (by omega) (by omega)) rfl ?_
        refine wp_ifne_bt G dX9_house_39 (fun kq4 => ?_) (fun kq4 => ?_)
        · skip
          refine wp_aload_n G 0 dX9_house_45 rfl ?_
          refine wp_get G 9 cOk8 fX9_68 dX9_house_46 h0 rfl ?_
          refine wp_get G 0 cOk2 fX9_280 dX9_house_49 h48 rfl ?_
          refine wp_bipush G dX9_house_52 (by decide) ?_
          refine wp_icmp_lt G dX9_house_54 (by omega) (by omega) (fun kq5 => ?_) (fun kq5 => ?_)
          · skip
            refine wp_aload_n G 0 dX9_house_60 rfl ?_
            refine wp_get G 9 cOk8 fX9_68 dX9_house_61 h0 rfl ?_
            refine wp_iload_n G 1 dX9_house_64 rfl ?_
            refine wp_iload_n G 2 dX9_house_65 rfl ?_
            refine wp_iload_n G 3 dX9_house_66 rfl ?_
            refine wp_iload G 4 dX9_house_67 rfl ?_
            refine wp_iload G 5 dX9_house_69 rfl ?_
            refine wp_cVE (b := 48) (ci := 2) (as := [zI x, zI y, zI k, zI w, zI p]) (rest := []) (hp2 := (nx, h, [(48, oO 2 [zI (((hn : Nat) : Int) + 1), zR 49, zR 50, zR 51, zR 52, zR 53, zR 54, zI ((ln : Nat) : Int), zR 59, zR 60, zR 61, zR 62, zR 63]), (53, oA 0 12 (fup (hs 3) hn p)), (52, oA 0 12 (fup (hs 2) hn w)), (51, oA 0 12 (fup (fun u => ((kd u : Nat) : Int)) hn k)), (50, oA 0 12 (fup (hs 1) hn y)), (49, oA 0 12 (fup (hs 0) hn x))])) G mX2_build lX9_283 iX2_build eX2_build ⟨_, rfl, rfl⟩ dX9_house_71 h48 rfl rfl (Nat.le_of_ble_eq_true rfl) (rmx_ok hR (by decide) (by decide) (by decide) (by decide)) (t_X2_build (nx := nx) (x := x) (y := y) (k := k) (w := w) (p := p) hG hH hD hL (by omega)) rfl ?_
            exact wp_ireturn G hr dX9_house_74 (by exact ⟨rfl, Or.inr (Or.inr (Or.inr (⟨by omega, by omega, by omega, by rw [Int.add_sub_cancel], rfl⟩)))⟩)
          · skip
            refine wp_bipush G dX9_house_57 (by decide) ?_
            exact wp_ireturn G hr dX9_house_59 (by exact ⟨rfl, Or.inr (Or.inr (Or.inl (⟨by omega, by omega, by omega, rfl, rfl⟩)))⟩)
        · skip
          refine wp_bipush G dX9_house_42 (by decide) ?_
          exact wp_ireturn G hr dX9_house_44 (by exact ⟨rfl, Or.inr (Or.inl (⟨by omega, by omega, rfl, rfl⟩))⟩)
  · skip
    refine wp_iconst G dX9_house_8 ?_
    exact wp_ireturn G hr dX9_house_9 (by exact ⟨rfl, Or.inl (⟨by omega, rfl, rfl⟩)⟩)

set_option maxRecDepth 100000 in
set_option maxHeartbeats 4000000 in
theorem t_X10_house {nx : Nat} {h : Nat → Option PC} {n : Nat} {q : Nat → Nat → Int} {o : Nat → Nat} {fc : Nat} {hn : Nat} {ln : Nat} {ma : Int} {mb : Int} {st : Nat → Int} {hs : Nat → Nat → Int} {kd : Nat → Nat} {dm : Nat → Nat → Int} {lw : Nat → Nat → Int} {x : Int} {y : Int} {k : Int} {w : Int} {p : Int} (hQ : isM h n q o fc hn ln ma mb st) (hO : okQ n q o) (hN : okN st) (hG : isMg h hs kd dm lw) (hH : okH hn hs kd) (hD : okD dm) (hL : okL ln lw) (ri_x : r32 x) (ri_y : r32 y) (ri_k : r32 k) (ri_w : r32 w) (ri_p : r32 p) : Cx 2 (0, 0) yX10_house cX10_house 6 (some .int) [zR 64, zI x, zI y, zI k, zI w, zI p] nx h (fun rr nx' l' => nx' = nx ∧ ((¬ ((0 ≤ x ∧ x ≤ 15) ∧ (0 ≤ y ∧ y ≤ 15)) ∧ rr = some (zI (-1)) ∧ l' = []) ∨ (((0 ≤ x ∧ x ≤ 15) ∧ (0 ≤ y ∧ y ≤ 15)) ∧ ¬ ((0 ≤ k ∧ k ≤ 2) ∧ (0 ≤ w ∧ w ≤ 10000) ∧ (0 ≤ p ∧ p ≤ 100)) ∧ rr = some (zI (-2)) ∧ l' = []) ∨ (((0 ≤ x ∧ x ≤ 15) ∧ (0 ≤ y ∧ y ≤ 15)) ∧ ((0 ≤ k ∧ k ≤ 2) ∧ (0 ≤ w ∧ w ≤ 10000) ∧ (0 ≤ p ∧ p ≤ 100)) ∧ hn = 12 ∧ rr = some (zI (-4)) ∧ l' = []) ∨ (((0 ≤ x ∧ x ≤ 15) ∧ (0 ≤ y ∧ y ≤ 15)) ∧ ((0 ≤ k ∧ k ≤ 2) ∧ (0 ≤ w ∧ w ≤ 10000) ∧ (0 ≤ p ∧ p ≤ 100)) ∧ hn < 12 ∧ rr = some (zI (((hn : Nat) : Int))) ∧ l' = [(83, oA 0 12 (fup (hs 0) hn x)), (84, oA 0 12 (fup (hs 1) hn y)), (85, oA 0 12 (fup (fun u => ((kd u : Nat) : Int)) hn k)), (86, oA 0 12 (fup (hs 2) hn w)), (87, oA 0 12 (fup (hs 3) hn p)), (64, oO 9 [zR 65, zR 66, zR 67, zR 68, zR 69, zR 70, zR 71, zI ((n : Nat) : Int), zR 72, zR 73, zR 74, zR 75, zI ma, zI mb, zR 76, zR 77, zR 78, zR 79, zR 80, zR 81, zI ((fc : Nat) : Int), zR 82, zR 83, zR 84, zR 85, zR 86, zR 87, zI (((hn : Nat) : Int) + 1), zR 88, zR 89, zR 90, zR 91, zR 92, zI ((ln : Nat) : Int)])]))) := by
  refine cx_of pnX10_house (Nat.le_of_ble_eq_true rfl) ?_
  intro K G hr hnm hR
  obtain ⟨h64, h65, h66, h67, h68, h69, h70, h71, h72, h73⟩ := id hQ
  have hn40 := hO.1
  obtain ⟨hN0, hN1, hN2, hN3, hN4⟩ := id hN
  obtain ⟨h83, h84, h85, h86, h87, h88, h89, h90, h91, h92⟩ := id hG
  have hn12 := hH.1
  have ln12 := hL.1
  show Wp K 6 (Mx K h (fun rr nx' l' => nx' = nx ∧ ((¬ ((0 ≤ x ∧ x ≤ 15) ∧ (0 ≤ y ∧ y ≤ 15)) ∧ rr = some (zI (-1)) ∧ l' = []) ∨ (((0 ≤ x ∧ x ≤ 15) ∧ (0 ≤ y ∧ y ≤ 15)) ∧ ¬ ((0 ≤ k ∧ k ≤ 2) ∧ (0 ≤ w ∧ w ≤ 10000) ∧ (0 ≤ p ∧ p ≤ 100)) ∧ rr = some (zI (-2)) ∧ l' = []) ∨ (((0 ≤ x ∧ x ≤ 15) ∧ (0 ≤ y ∧ y ≤ 15)) ∧ ((0 ≤ k ∧ k ≤ 2) ∧ (0 ≤ w ∧ w ≤ 10000) ∧ (0 ≤ p ∧ p ≤ 100)) ∧ hn = 12 ∧ rr = some (zI (-4)) ∧ l' = []) ∨ (((0 ≤ x ∧ x ≤ 15) ∧ (0 ≤ y ∧ y ≤ 15)) ∧ ((0 ≤ k ∧ k ≤ 2) ∧ (0 ≤ w ∧ w ≤ 10000) ∧ (0 ≤ p ∧ p ≤ 100)) ∧ hn < 12 ∧ rr = some (zI (((hn : Nat) : Int))) ∧ l' = [(83, oA 0 12 (fup (hs 0) hn x)), (84, oA 0 12 (fup (hs 1) hn y)), (85, oA 0 12 (fup (fun u => ((kd u : Nat) : Int)) hn k)), (86, oA 0 12 (fup (hs 2) hn w)), (87, oA 0 12 (fup (hs 3) hn p)), (64, oO 9 [zR 65, zR 66, zR 67, zR 68, zR 69, zR 70, zR 71, zI ((n : Nat) : Int), zR 72, zR 73, zR 74, zR 75, zI ma, zI mb, zR 76, zR 77, zR 78, zR 79, zR 80, zR 81, zI ((fc : Nat) : Int), zR 82, zR 83, zR 84, zR 85, zR 86, zR 87, zI (((hn : Nat) : Int) + 1), zR 88, zR 89, zR 90, zR 91, zR 92, zI ((ln : Nat) : Int)])]))) (0, 0)) (0, 0) 0 [(0, zR 64), (1, zI x), (2, zI y), (3, zI k), (4, zI w), (5, zI p)] [] (nx, h, [])
  refine wp_iload_n G 1 dX10_house_0 rfl ?_
  refine wp_iload_n G 2 dX10_house_1 rfl ?_
  refine wp_cSE (as := [zI x, zI y]) (rest := []) (hp2 := (nx, h, [])) G mX10_isCell lX10_116 sX10_isCell dX10_house_2 rfl rfl (Nat.le_of_ble_eq_true rfl) (rmx_ok hR (by decide) (by decide) (by decide) (by decide)) (t_X10_isCell (nx := nx) (v := x) (w := y) (by omega) (by omega)) rfl ?_
  refine wp_ifne_bt G dX10_house_5 (fun kq1 => ?_) (fun kq1 => ?_)
  · skip
    refine wp_iload_n G 3 dX10_house_10 rfl ?_
    refine wp_i2l G (by omega) dX10_house_11 ?_
    refine wp_lconst (z := 0) G dX10_house_12 (by decide) ?_
    refine wp_ldc2 (z := 2) G kX10_110 dX10_house_13 ?_
    refine wp_cSE (as := [zJ k, zJ 0, zJ 2]) (rest := []) (hp2 := (nx, h, [])) G mX10_in lX10_100 sX10_in dX10_house_16 rfl rfl (Nat.le_of_ble_eq_true rfl) (rmx_ok hR (by decide) (by decide) (by decide) (by decide)) (t_X10_in (nx := nx) (v := k) (lo := 0) (hi := 2) (by omega) (by omega) (by omega)) rfl ?_
    refine wp_ifeq_bt G dX10_house_19 (fun kq2 => ?_) (fun kq2 => ?_)
    · skip
      refine wp_bipush G dX10_house_48 (by decide) ?_
      exact wp_ireturn G hr dX10_house_50 (by exact ⟨rfl, Or.inr (Or.inl (⟨by omega, by omega, rfl, rfl⟩))⟩)
    · skip
      refine wp_iload G 4 dX10_house_22 rfl ?_
      refine wp_i2l G (by omega) dX10_house_24 ?_
      refine wp_lconst (z := 0) G dX10_house_25 (by decide) ?_
      refine wp_ldc2 (z := 10000) G kX10_294 dX10_house_26 ?_
      refine wp_cSE (as := [zJ w, zJ 0, zJ 10000]) (rest := []) (hp2 := (nx, h, [])) G mX10_in lX10_100 sX10_in dX10_house_29 rfl rfl (Nat.le_of_ble_eq_true rfl) (rmx_ok hR (by decide) (by decide) (by decide) (by decide)) (t_X10_in (nx := nx) (v := w) (lo := 0) (hi := 10000) (by omega) (by omega) (by omega)) rfl ?_
      refine wp_ifeq_bt G dX10_house_32 (fun kq3 => ?_) (fun kq3 => ?_)
      · skip
        refine wp_bipush G dX10_house_48 (by decide) ?_
        exact wp_ireturn G hr dX10_house_50 (by exact ⟨rfl, Or.inr (Or.inl (⟨by omega, by omega, rfl, rfl⟩))⟩)
      · skip
        refine wp_iload G 5 dX10_house_35 rfl ?_
        refine wp_i2l G (by omega) dX10_house_37 ?_
        refine wp_lconst (z := 0) G dX10_house_38 (by decide) ?_
        refine wp_ldc2 (z := 100) G kX10_198 dX10_house_39 ?_
        refine wp_cSE (as := [zJ p, zJ 0, zJ 100]) (rest := []) (hp2 := (nx, h, [])) G mX10_in lX10_100 sX10_in dX10_house_42 rfl rfl (Nat.le_of_ble_eq_true rfl) (rmx_ok hR (by decide) (by decide) (by decide) (by decide)) (t_X10_in (nx := nx) (v := p) (lo := 0) (hi := 100) (by omega) (by omega) (by omega)) rfl ?_
        refine wp_ifne_bt G dX10_house_45 (fun kq4 => ?_) (fun kq4 => ?_)
        · skip
          refine wp_aload_n G 0 dX10_house_51 rfl ?_
          refine wp_get G 27 cOk9 fX10_296 dX10_house_52 h64 rfl ?_
          refine wp_bipush G dX10_house_55 (by decide) ?_
          refine wp_icmp_ne G dX10_house_57 (by omega) (by omega) (fun kq5 => ?_) (fun kq5 => ?_)
          · skip
            refine wp_aload_n G 0 dX10_house_63 rfl ?_
            refine wp_get G 22 cOk9 fX10_66 dX10_house_64 h64 rfl ?_
            refine wp_aload_n G 0 dX10_house_67 rfl ?_
            refine wp_get G 27 cOk9 fX10_296 dX10_house_68 h64 rfl ?_
            refine wp_iload_n G 1 dX10_house_71 rfl ?_
            refine wp_iastE (j := hn) (hp2 := (nx, h, [(83, oA 0 12 (fup (hs 0) hn x))])) G dX10_house_72 h83 rfl (by omega) (by decide) rfl ?_
            refine wp_aload_n G 0 dX10_house_73 rfl ?_
            refine wp_get G 23 cOk9 fX10_69 dX10_house_74 h64 rfl ?_
            refine wp_aload_n G 0 dX10_house_77 rfl ?_
            refine wp_get G 27 cOk9 fX10_296 dX10_house_78 h64 rfl ?_
            refine wp_iload_n G 2 dX10_house_81 rfl ?_
            refine wp_iastE (j := hn) (hp2 := (nx, h, [(83, oA 0 12 (fup (hs 0) hn x)), (84, oA 0 12 (fup (hs 1) hn y))])) G dX10_house_82 h84 rfl (by omega) (by decide) rfl ?_
            refine wp_aload_n G 0 dX10_house_83 rfl ?_
            refine wp_get G 24 cOk9 fX10_72 dX10_house_84 h64 rfl ?_
            refine wp_aload_n G 0 dX10_house_87 rfl ?_
            refine wp_get G 27 cOk9 fX10_296 dX10_house_88 h64 rfl ?_
            refine wp_iload_n G 3 dX10_house_91 rfl ?_
            refine wp_iastE (j := hn) (hp2 := (nx, h, [(83, oA 0 12 (fup (hs 0) hn x)), (84, oA 0 12 (fup (hs 1) hn y)), (85, oA 0 12 (fup (fun u => ((kd u : Nat) : Int)) hn k))])) G dX10_house_92 h85 rfl (by omega) (by decide) rfl ?_
            refine wp_aload_n G 0 dX10_house_93 rfl ?_
            refine wp_get G 25 cOk9 fX10_75 dX10_house_94 h64 rfl ?_
            refine wp_aload_n G 0 dX10_house_97 rfl ?_
            refine wp_get G 27 cOk9 fX10_296 dX10_house_98 h64 rfl ?_
            refine wp_iload G 4 dX10_house_101 rfl ?_
            refine wp_iastE (j := hn) (hp2 := (nx, h, [(83, oA 0 12 (fup (hs 0) hn x)), (84, oA 0 12 (fup (hs 1) hn y)), (85, oA 0 12 (fup (fun u => ((kd u : Nat) : Int)) hn k)), (86, oA 0 12 (fup (hs 2) hn w))])) G dX10_house_103 h86 rfl (by omega) (by decide) rfl ?_
            refine wp_aload_n G 0 dX10_house_104 rfl ?_
            refine wp_get G 26 cOk9 fX10_78 dX10_house_105 h64 rfl ?_
            refine wp_aload_n G 0 dX10_house_108 rfl ?_
            refine wp_get G 27 cOk9 fX10_296 dX10_house_109 h64 rfl ?_
            refine wp_iload G 5 dX10_house_112 rfl ?_
            refine wp_iastE (j := hn) (hp2 := (nx, h, [(83, oA 0 12 (fup (hs 0) hn x)), (84, oA 0 12 (fup (hs 1) hn y)), (85, oA 0 12 (fup (fun u => ((kd u : Nat) : Int)) hn k)), (86, oA 0 12 (fup (hs 2) hn w)), (87, oA 0 12 (fup (hs 3) hn p))])) G dX10_house_114 h87 rfl (by omega) (by decide) rfl ?_
            refine wp_aload_n G 0 dX10_house_115 rfl ?_
            refine wp_dup G rfl dX10_house_116 ?_
            refine wp_get G 27 cOk9 fX10_296 dX10_house_117 h64 rfl ?_
            refine wp_iconst G dX10_house_120 ?_
            refine wp_iadd G dX10_house_121 ?_
            refine wp_putE (hp2 := (nx, h, [(83, oA 0 12 (fup (hs 0) hn x)), (84, oA 0 12 (fup (hs 1) hn y)), (85, oA 0 12 (fup (fun u => ((kd u : Nat) : Int)) hn k)), (86, oA 0 12 (fup (hs 2) hn w)), (87, oA 0 12 (fup (hs 3) hn p)), (64, oO 9 [zR 65, zR 66, zR 67, zR 68, zR 69, zR 70, zR 71, zI ((n : Nat) : Int), zR 72, zR 73, zR 74, zR 75, zI ma, zI mb, zR 76, zR 77, zR 78, zR 79, zR 80, zR 81, zI ((fc : Nat) : Int), zR 82, zR 83, zR 84, zR 85, zR 86, zR 87, zI (((hn : Nat) : Int) + 1), zR 88, zR 89, zR 90, zR 91, zR 92, zI ((ln : Nat) : Int)])])) G 27 cOk9 fX10_296 dX10_house_122 h64 (Nat.le_of_ble_eq_true rfl) (fit_int _) (fun _ e => by cases e; rfl) rfl ?_
            refine wp_aload_n G 0 dX10_house_125 rfl ?_
            refine wp_get G 27 cOk9 fX10_296 dX10_house_126 rfl rfl ?_
            refine wp_iconst G dX10_house_129 ?_
            refine wp_isub G dX10_house_130 ?_
            exact wp_ireturn G hr dX10_house_131 (by exact ⟨rfl, Or.inr (Or.inr (Or.inr (⟨by omega, by omega, by omega, by rw [Int.add_sub_cancel], rfl⟩)))⟩)
          · skip
            refine wp_bipush G dX10_house_60 (by decide) ?_
            exact wp_ireturn G hr dX10_house_62 (by exact ⟨rfl, Or.inr (Or.inr (Or.inl (⟨by omega, by omega, by omega, rfl, rfl⟩)))⟩)
        · skip
          refine wp_bipush G dX10_house_48 (by decide) ?_
          exact wp_ireturn G hr dX10_house_50 (by exact ⟨rfl, Or.inr (Or.inl (⟨by omega, by omega, rfl, rfl⟩))⟩)
  · skip
    refine wp_iconst G dX10_house_8 ?_
    exact wp_ireturn G hr dX10_house_9 (by exact ⟨rfl, Or.inl (⟨by omega, rfl, rfl⟩)⟩)

set_option maxRecDepth 100000 in
set_option maxHeartbeats 4000000 in
theorem t_X9_law {nx : Nat} {h : Nat → Option PC} {n : Nat} {q : Nat → Nat → Int} {o : Nat → Nat} {hn : Nat} {hs : Nat → Nat → Int} {kd : Nat → Nat} {dm : Nat → Nat → Int} {ln : Nat} {lw : Nat → Nat → Int} {gn : Nat → Int} {fc : Nat} {st : Nat → Int} {x : Int} {y : Int} {k : Int} {w : Int} (hQ : isQ h n q o) (hO : okQ n q o) (hG : isG h hn hs kd dm ln lw gn) (hH : okH hn hs kd) (hD : okD dm) (hL : okL ln lw) (h0 : h 0 = some (oO 8 [zR 1, zR 2, zR 11, zR 34, zR 36, zR 42, zR 44, zI ((fc : Nat) : Int), zR 45, zR 48])) (h1 : h 1 = some (oA 0 5 st)) (hN : okN st) (ri_x : r32 x) (ri_y : r32 y) (ri_k : r32 k) (ri_w : r32 w) : Cx 2 (0, 0) yX9_law cX9_law 5 (some .int) [zR 0, zI x, zI y, zI k, zI w] nx h (fun rr nx' l' => nx' = nx ∧ ((¬ ((0 ≤ x ∧ x ≤ 15) ∧ (0 ≤ y ∧ y ≤ 15)) ∧ rr = some (zI (-1)) ∧ l' = []) ∨ (((0 ≤ x ∧ x ≤ 15) ∧ (0 ≤ y ∧ y ≤ 15)) ∧ ¬ ((0 ≤ k ∧ k ≤ 90) ∧ (1 ≤ w ∧ w ≤ 1000)) ∧ rr = some (zI (-2)) ∧ l' = []) ∨ (((0 ≤ x ∧ x ≤ 15) ∧ (0 ≤ y ∧ y ≤ 15)) ∧ ((0 ≤ k ∧ k ≤ 90) ∧ (1 ≤ w ∧ w ≤ 1000)) ∧ ln = 12 ∧ rr = some (zI (-4)) ∧ l' = []) ∨ (((0 ≤ x ∧ x ≤ 15) ∧ (0 ≤ y ∧ y ≤ 15)) ∧ ((0 ≤ k ∧ k ≤ 90) ∧ (1 ≤ w ∧ w ≤ 1000)) ∧ ln < 12 ∧ rr = some (zI (((ln : Nat) : Int) + 1)) ∧ l' = [(48, oO 2 [zI ((hn : Nat) : Int), zR 49, zR 50, zR 51, zR 52, zR 53, zR 54, zI (((ln : Nat) : Int) + 1), zR 59, zR 60, zR 61, zR 62, zR 63]), (62, oA 0 12 (fup (lw 3) ln w)), (61, oA 0 12 (fup (lw 2) ln k)), (60, oA 0 12 (fup (lw 1) ln y)), (59, oA 0 12 (fup (lw 0) ln x))]))) := by
  refine cx_of pnX9_law (Nat.le_of_ble_eq_true rfl) ?_
  intro K G hr hnm hR
  obtain ⟨h2, h3, h4, h5, h6, h7, h8, h9, h10⟩ := id hQ
  have hn40 := hO.1
  obtain ⟨h48, h49, h50, h51, h52, h53, h54, h55, h56, h57, h58, h59, h60, h61, h62, h63⟩ := id hG
  have hn12 := hH.1
  have ln12 := hL.1
  obtain ⟨hN0, hN1, hN2, hN3, hN4⟩ := id hN
  show Wp K 5 (Mx K h (fun rr nx' l' => nx' = nx ∧ ((¬ ((0 ≤ x ∧ x ≤ 15) ∧ (0 ≤ y ∧ y ≤ 15)) ∧ rr = some (zI (-1)) ∧ l' = []) ∨ (((0 ≤ x ∧ x ≤ 15) ∧ (0 ≤ y ∧ y ≤ 15)) ∧ ¬ ((0 ≤ k ∧ k ≤ 90) ∧ (1 ≤ w ∧ w ≤ 1000)) ∧ rr = some (zI (-2)) ∧ l' = []) ∨ (((0 ≤ x ∧ x ≤ 15) ∧ (0 ≤ y ∧ y ≤ 15)) ∧ ((0 ≤ k ∧ k ≤ 90) ∧ (1 ≤ w ∧ w ≤ 1000)) ∧ ln = 12 ∧ rr = some (zI (-4)) ∧ l' = []) ∨ (((0 ≤ x ∧ x ≤ 15) ∧ (0 ≤ y ∧ y ≤ 15)) ∧ ((0 ≤ k ∧ k ≤ 90) ∧ (1 ≤ w ∧ w ≤ 1000)) ∧ ln < 12 ∧ rr = some (zI (((ln : Nat) : Int) + 1)) ∧ l' = [(48, oO 2 [zI ((hn : Nat) : Int), zR 49, zR 50, zR 51, zR 52, zR 53, zR 54, zI (((ln : Nat) : Int) + 1), zR 59, zR 60, zR 61, zR 62, zR 63]), (62, oA 0 12 (fup (lw 3) ln w)), (61, oA 0 12 (fup (lw 2) ln k)), (60, oA 0 12 (fup (lw 1) ln y)), (59, oA 0 12 (fup (lw 0) ln x))]))) (0, 0)) (0, 0) 0 [(0, zR 0), (1, zI x), (2, zI y), (3, zI k), (4, zI w)] [] (nx, h, [])
  refine wp_iload_n G 1 dX9_law_0 rfl ?_
  refine wp_iload_n G 2 dX9_law_1 rfl ?_
  refine wp_cSE (as := [zI x, zI y]) (rest := []) (hp2 := (nx, h, [])) G mX9_isCell lX9_76 sX9_isCell dX9_law_2 rfl rfl (Nat.le_of_ble_eq_true rfl) (rmx_ok hR (by decide) (by decide) (by decide) (by decide)) (t_X9_isCell (nx := nx) (v := x) (w := y) (by omega) (by omega)) rfl ?_
  refine wp_ifne_bt G dX9_law_5 (fun kq1 => ?_) (fun kq1 => ?_)
  · skip
    refine wp_iload_n G 3 dX9_law_10 rfl ?_
    refine wp_cSE (as := [zI k]) (rest := []) (hp2 := (nx, h, [])) G mX9_isGreatness lX9_83 sX9_isGreatness dX9_law_11 rfl rfl (Nat.le_of_ble_eq_true rfl) (rmx_ok hR (by decide) (by decide) (by decide) (by decide)) (t_X9_isGreatness (nx := nx) (v := k) (by omega)) rfl ?_
    refine wp_ifeq_bt G dX9_law_14 (fun kq2 => ?_) (fun kq2 => ?_)
    · skip
      refine wp_bipush G dX9_law_29 (by decide) ?_
      exact wp_ireturn G hr dX9_law_31 (by exact ⟨rfl, Or.inr (Or.inl (⟨by omega, by omega, rfl, rfl⟩))⟩)
    · skip
      refine wp_iload G 4 dX9_law_17 rfl ?_
      refine wp_iconst G dX9_law_19 ?_
      refine wp_sipush G dX9_law_20 (by decide) ?_
      refine wp_cSE (as := [zI w, zI 1, zI 1000]) (rest := []) (hp2 := (nx, h, [])) G mX9_within lX9_127 sX9_within dX9_law_23 rfl rfl (Nat.le_of_ble_eq_true rfl) (rmx_ok hR (by decide) (by decide) (by decide) (by decide)) (t_X9_within (nx := nx) (v := w) (lo := 1) (hi := 1000) (by omega) (by omega) (by omega)) rfl ?_
      refine wp_ifne_bt G dX9_law_26 (fun kq3 => ?_) (fun kq3 => ?_)
      · skip
        refine wp_aload_n G 0 dX9_law_32 rfl ?_
        refine wp_get G 9 cOk8 fX9_68 dX9_law_33 h0 rfl ?_
        refine wp_get G 7 cOk2 fX9_297 dX9_law_36 h48 rfl ?_
        refine wp_bipush G dX9_law_39 (by decide) ?_
        refine wp_icmp_lt G dX9_law_41 (by omega) (by omega) (fun kq4 => ?_) (fun kq4 => ?_)
        · skip
          refine wp_aload_n G 0 dX9_law_47 rfl ?_
          refine wp_get G 9 cOk8 fX9_68 dX9_law_48 h0 rfl ?_
          refine wp_iload_n G 1 dX9_law_51 rfl ?_
          refine wp_iload_n G 2 dX9_law_52 rfl ?_
          refine wp_iload_n G 3 dX9_law_53 rfl ?_
          refine wp_iload G 4 dX9_law_54 rfl ?_
          refine wp_cVE (b := 48) (ci := 2) (as := [zI x, zI y, zI k, zI w]) (rest := []) (hp2 := (nx, h, [(48, oO 2 [zI ((hn : Nat) : Int), zR 49, zR 50, zR 51, zR 52, zR 53, zR 54, zI (((ln : Nat) : Int) + 1), zR 59, zR 60, zR 61, zR 62, zR 63]), (62, oA 0 12 (fup (lw 3) ln w)), (61, oA 0 12 (fup (lw 2) ln k)), (60, oA 0 12 (fup (lw 1) ln y)), (59, oA 0 12 (fup (lw 0) ln x))])) G mX2_enact lX9_300 iX2_enact eX2_enact ⟨_, rfl, rfl⟩ dX9_law_56 h48 rfl rfl (Nat.le_of_ble_eq_true rfl) (rmx_ok hR (by decide) (by decide) (by decide) (by decide)) (t_X2_enact (nx := nx) (x := x) (y := y) (k := k) (w := w) hG hH hD hL (by omega)) rfl ?_
          exact wp_ireturn G hr dX9_law_59 (by exact ⟨rfl, Or.inr (Or.inr (Or.inr (⟨by omega, by omega, by omega, by rfl, rfl⟩)))⟩)
        · skip
          refine wp_bipush G dX9_law_44 (by decide) ?_
          exact wp_ireturn G hr dX9_law_46 (by exact ⟨rfl, Or.inr (Or.inr (Or.inl (⟨by omega, by omega, by omega, rfl, rfl⟩)))⟩)
      · skip
        refine wp_bipush G dX9_law_29 (by decide) ?_
        exact wp_ireturn G hr dX9_law_31 (by exact ⟨rfl, Or.inr (Or.inl (⟨by omega, by omega, rfl, rfl⟩))⟩)
  · skip
    refine wp_iconst G dX9_law_8 ?_
    exact wp_ireturn G hr dX9_law_9 (by exact ⟨rfl, Or.inl (⟨by omega, rfl, rfl⟩)⟩)

set_option maxRecDepth 100000 in
set_option maxHeartbeats 4000000 in
theorem t_X10_law {nx : Nat} {h : Nat → Option PC} {n : Nat} {q : Nat → Nat → Int} {o : Nat → Nat} {fc : Nat} {hn : Nat} {ln : Nat} {ma : Int} {mb : Int} {st : Nat → Int} {hs : Nat → Nat → Int} {kd : Nat → Nat} {dm : Nat → Nat → Int} {lw : Nat → Nat → Int} {x : Int} {y : Int} {k : Int} {w : Int} (hQ : isM h n q o fc hn ln ma mb st) (hO : okQ n q o) (hN : okN st) (hG : isMg h hs kd dm lw) (hH : okH hn hs kd) (hD : okD dm) (hL : okL ln lw) (ri_x : r32 x) (ri_y : r32 y) (ri_k : r32 k) (ri_w : r32 w) : Cx 2 (0, 0) yX10_law cX10_law 5 (some .int) [zR 64, zI x, zI y, zI k, zI w] nx h (fun rr nx' l' => nx' = nx ∧ ((¬ ((0 ≤ x ∧ x ≤ 15) ∧ (0 ≤ y ∧ y ≤ 15)) ∧ rr = some (zI (-1)) ∧ l' = []) ∨ (((0 ≤ x ∧ x ≤ 15) ∧ (0 ≤ y ∧ y ≤ 15)) ∧ ¬ ((0 ≤ k ∧ k ≤ 90) ∧ (1 ≤ w ∧ w ≤ 1000)) ∧ rr = some (zI (-2)) ∧ l' = []) ∨ (((0 ≤ x ∧ x ≤ 15) ∧ (0 ≤ y ∧ y ≤ 15)) ∧ ((0 ≤ k ∧ k ≤ 90) ∧ (1 ≤ w ∧ w ≤ 1000)) ∧ ln = 12 ∧ rr = some (zI (-4)) ∧ l' = []) ∨ (((0 ≤ x ∧ x ≤ 15) ∧ (0 ≤ y ∧ y ≤ 15)) ∧ ((0 ≤ k ∧ k ≤ 90) ∧ (1 ≤ w ∧ w ≤ 1000)) ∧ ln < 12 ∧ rr = some (zI (((ln : Nat) : Int) + 1)) ∧ l' = [(89, oA 0 12 (fup (lw 0) ln x)), (90, oA 0 12 (fup (lw 1) ln y)), (91, oA 0 12 (fup (lw 2) ln k)), (92, oA 0 12 (fup (lw 3) ln w)), (64, oO 9 [zR 65, zR 66, zR 67, zR 68, zR 69, zR 70, zR 71, zI ((n : Nat) : Int), zR 72, zR 73, zR 74, zR 75, zI ma, zI mb, zR 76, zR 77, zR 78, zR 79, zR 80, zR 81, zI ((fc : Nat) : Int), zR 82, zR 83, zR 84, zR 85, zR 86, zR 87, zI ((hn : Nat) : Int), zR 88, zR 89, zR 90, zR 91, zR 92, zI (((ln : Nat) : Int) + 1)])]))) := by
  refine cx_of pnX10_law (Nat.le_of_ble_eq_true rfl) ?_
  intro K G hr hnm hR
  obtain ⟨h64, h65, h66, h67, h68, h69, h70, h71, h72, h73⟩ := id hQ
  have hn40 := hO.1
  obtain ⟨hN0, hN1, hN2, hN3, hN4⟩ := id hN
  obtain ⟨h83, h84, h85, h86, h87, h88, h89, h90, h91, h92⟩ := id hG
  have hn12 := hH.1
  have ln12 := hL.1
  show Wp K 5 (Mx K h (fun rr nx' l' => nx' = nx ∧ ((¬ ((0 ≤ x ∧ x ≤ 15) ∧ (0 ≤ y ∧ y ≤ 15)) ∧ rr = some (zI (-1)) ∧ l' = []) ∨ (((0 ≤ x ∧ x ≤ 15) ∧ (0 ≤ y ∧ y ≤ 15)) ∧ ¬ ((0 ≤ k ∧ k ≤ 90) ∧ (1 ≤ w ∧ w ≤ 1000)) ∧ rr = some (zI (-2)) ∧ l' = []) ∨ (((0 ≤ x ∧ x ≤ 15) ∧ (0 ≤ y ∧ y ≤ 15)) ∧ ((0 ≤ k ∧ k ≤ 90) ∧ (1 ≤ w ∧ w ≤ 1000)) ∧ ln = 12 ∧ rr = some (zI (-4)) ∧ l' = []) ∨ (((0 ≤ x ∧ x ≤ 15) ∧ (0 ≤ y ∧ y ≤ 15)) ∧ ((0 ≤ k ∧ k ≤ 90) ∧ (1 ≤ w ∧ w ≤ 1000)) ∧ ln < 12 ∧ rr = some (zI (((ln : Nat) : Int) + 1)) ∧ l' = [(89, oA 0 12 (fup (lw 0) ln x)), (90, oA 0 12 (fup (lw 1) ln y)), (91, oA 0 12 (fup (lw 2) ln k)), (92, oA 0 12 (fup (lw 3) ln w)), (64, oO 9 [zR 65, zR 66, zR 67, zR 68, zR 69, zR 70, zR 71, zI ((n : Nat) : Int), zR 72, zR 73, zR 74, zR 75, zI ma, zI mb, zR 76, zR 77, zR 78, zR 79, zR 80, zR 81, zI ((fc : Nat) : Int), zR 82, zR 83, zR 84, zR 85, zR 86, zR 87, zI ((hn : Nat) : Int), zR 88, zR 89, zR 90, zR 91, zR 92, zI (((ln : Nat) : Int) + 1)])]))) (0, 0)) (0, 0) 0 [(0, zR 64), (1, zI x), (2, zI y), (3, zI k), (4, zI w)] [] (nx, h, [])
  refine wp_iload_n G 1 dX10_law_0 rfl ?_
  refine wp_iload_n G 2 dX10_law_1 rfl ?_
  refine wp_cSE (as := [zI x, zI y]) (rest := []) (hp2 := (nx, h, [])) G mX10_isCell lX10_116 sX10_isCell dX10_law_2 rfl rfl (Nat.le_of_ble_eq_true rfl) (rmx_ok hR (by decide) (by decide) (by decide) (by decide)) (t_X10_isCell (nx := nx) (v := x) (w := y) (by omega) (by omega)) rfl ?_
  refine wp_ifne_bt G dX10_law_5 (fun kq1 => ?_) (fun kq1 => ?_)
  · skip
    refine wp_iload_n G 3 dX10_law_10 rfl ?_
    refine wp_cSE (as := [zI k]) (rest := []) (hp2 := (nx, h, [])) G mX10_isGreat lX10_123 sX10_isGreat dX10_law_11 rfl rfl (Nat.le_of_ble_eq_true rfl) (rmx_ok hR (by decide) (by decide) (by decide) (by decide)) (t_X10_isGreat (nx := nx) (v := k) (by omega)) rfl ?_
    refine wp_ifeq_bt G dX10_law_14 (fun kq2 => ?_) (fun kq2 => ?_)
    · skip
      refine wp_bipush G dX10_law_30 (by decide) ?_
      exact wp_ireturn G hr dX10_law_32 (by exact ⟨rfl, Or.inr (Or.inl (⟨by omega, by omega, rfl, rfl⟩))⟩)
    · skip
      refine wp_iload G 4 dX10_law_17 rfl ?_
      refine wp_i2l G (by omega) dX10_law_19 ?_
      refine wp_lconst (z := 1) G dX10_law_20 (by decide) ?_
      refine wp_ldc2 (z := 1000) G kX10_283 dX10_law_21 ?_
      refine wp_cSE (as := [zJ w, zJ 1, zJ 1000]) (rest := []) (hp2 := (nx, h, [])) G mX10_in lX10_100 sX10_in dX10_law_24 rfl rfl (Nat.le_of_ble_eq_true rfl) (rmx_ok hR (by decide) (by decide) (by decide) (by decide)) (t_X10_in (nx := nx) (v := w) (lo := 1) (hi := 1000) (by omega) (by omega) (by omega)) rfl ?_
      refine wp_ifne_bt G dX10_law_27 (fun kq3 => ?_) (fun kq3 => ?_)
      · skip
        refine wp_aload_n G 0 dX10_law_33 rfl ?_
        refine wp_get G 33 cOk9 fX10_305 dX10_law_34 h64 rfl ?_
        refine wp_bipush G dX10_law_37 (by decide) ?_
        refine wp_icmp_ne G dX10_law_39 (by omega) (by omega) (fun kq4 => ?_) (fun kq4 => ?_)
        · skip
          refine wp_aload_n G 0 dX10_law_45 rfl ?_
          refine wp_get G 29 cOk9 fX10_84 dX10_law_46 h64 rfl ?_
          refine wp_aload_n G 0 dX10_law_49 rfl ?_
          refine wp_get G 33 cOk9 fX10_305 dX10_law_50 h64 rfl ?_
          refine wp_iload_n G 1 dX10_law_53 rfl ?_
          refine wp_iastE (j := ln) (hp2 := (nx, h, [(89, oA 0 12 (fup (lw 0) ln x))])) G dX10_law_54 h89 rfl (by omega) (by decide) rfl ?_
          refine wp_aload_n G 0 dX10_law_55 rfl ?_
          refine wp_get G 30 cOk9 fX10_87 dX10_law_56 h64 rfl ?_
          refine wp_aload_n G 0 dX10_law_59 rfl ?_
          refine wp_get G 33 cOk9 fX10_305 dX10_law_60 h64 rfl ?_
          refine wp_iload_n G 2 dX10_law_63 rfl ?_
          refine wp_iastE (j := ln) (hp2 := (nx, h, [(89, oA 0 12 (fup (lw 0) ln x)), (90, oA 0 12 (fup (lw 1) ln y))])) G dX10_law_64 h90 rfl (by omega) (by decide) rfl ?_
          refine wp_aload_n G 0 dX10_law_65 rfl ?_
          refine wp_get G 31 cOk9 fX10_90 dX10_law_66 h64 rfl ?_
          refine wp_aload_n G 0 dX10_law_69 rfl ?_
          refine wp_get G 33 cOk9 fX10_305 dX10_law_70 h64 rfl ?_
          refine wp_iload_n G 3 dX10_law_73 rfl ?_
          refine wp_iastE (j := ln) (hp2 := (nx, h, [(89, oA 0 12 (fup (lw 0) ln x)), (90, oA 0 12 (fup (lw 1) ln y)), (91, oA 0 12 (fup (lw 2) ln k))])) G dX10_law_74 h91 rfl (by omega) (by decide) rfl ?_
          refine wp_aload_n G 0 dX10_law_75 rfl ?_
          refine wp_get G 32 cOk9 fX10_93 dX10_law_76 h64 rfl ?_
          refine wp_aload_n G 0 dX10_law_79 rfl ?_
          refine wp_get G 33 cOk9 fX10_305 dX10_law_80 h64 rfl ?_
          refine wp_iload G 4 dX10_law_83 rfl ?_
          refine wp_iastE (j := ln) (hp2 := (nx, h, [(89, oA 0 12 (fup (lw 0) ln x)), (90, oA 0 12 (fup (lw 1) ln y)), (91, oA 0 12 (fup (lw 2) ln k)), (92, oA 0 12 (fup (lw 3) ln w))])) G dX10_law_85 h92 rfl (by omega) (by decide) rfl ?_
          refine wp_aload_n G 0 dX10_law_86 rfl ?_
          refine wp_dup G rfl dX10_law_87 ?_
          refine wp_get G 33 cOk9 fX10_305 dX10_law_88 h64 rfl ?_
          refine wp_iconst G dX10_law_91 ?_
          refine wp_iadd G dX10_law_92 ?_
          refine wp_putE (hp2 := (nx, h, [(89, oA 0 12 (fup (lw 0) ln x)), (90, oA 0 12 (fup (lw 1) ln y)), (91, oA 0 12 (fup (lw 2) ln k)), (92, oA 0 12 (fup (lw 3) ln w)), (64, oO 9 [zR 65, zR 66, zR 67, zR 68, zR 69, zR 70, zR 71, zI ((n : Nat) : Int), zR 72, zR 73, zR 74, zR 75, zI ma, zI mb, zR 76, zR 77, zR 78, zR 79, zR 80, zR 81, zI ((fc : Nat) : Int), zR 82, zR 83, zR 84, zR 85, zR 86, zR 87, zI ((hn : Nat) : Int), zR 88, zR 89, zR 90, zR 91, zR 92, zI (((ln : Nat) : Int) + 1)])])) G 33 cOk9 fX10_305 dX10_law_93 h64 (Nat.le_of_ble_eq_true rfl) (fit_int _) (fun _ e => by cases e; rfl) rfl ?_
          refine wp_aload_n G 0 dX10_law_96 rfl ?_
          refine wp_get G 33 cOk9 fX10_305 dX10_law_97 rfl rfl ?_
          exact wp_ireturn G hr dX10_law_100 (by exact ⟨rfl, Or.inr (Or.inr (Or.inr (⟨by omega, by omega, by omega, by rfl, rfl⟩)))⟩)
        · skip
          refine wp_bipush G dX10_law_42 (by decide) ?_
          exact wp_ireturn G hr dX10_law_44 (by exact ⟨rfl, Or.inr (Or.inr (Or.inl (⟨by omega, by omega, by omega, rfl, rfl⟩)))⟩)
      · skip
        refine wp_bipush G dX10_law_30 (by decide) ?_
        exact wp_ireturn G hr dX10_law_32 (by exact ⟨rfl, Or.inr (Or.inl (⟨by omega, by omega, rfl, rfl⟩))⟩)
  · skip
    refine wp_iconst G dX10_law_8 ?_
    exact wp_ireturn G hr dX10_law_9 (by exact ⟨rfl, Or.inl (⟨by omega, rfl, rfl⟩)⟩)

set_option maxRecDepth 100000 in
set_option maxHeartbeats 4000000 in
theorem t_X9_damage {nx : Nat} {h : Nat → Option PC} {n : Nat} {q : Nat → Nat → Int} {o : Nat → Nat} {hn : Nat} {hs : Nat → Nat → Int} {kd : Nat → Nat} {dm : Nat → Nat → Int} {ln : Nat} {lw : Nat → Nat → Int} {gn : Nat → Int} {fc : Nat} {st : Nat → Int} {a : Int} {b : Int} {v : Int} (hQ : isQ h n q o) (hO : okQ n q o) (hG : isG h hn hs kd dm ln lw gn) (hH : okH hn hs kd) (hD : okD dm) (hL : okL ln lw) (h0 : h 0 = some (oO 8 [zR 1, zR 2, zR 11, zR 34, zR 36, zR 42, zR 44, zI ((fc : Nat) : Int), zR 45, zR 48])) (h1 : h 1 = some (oA 0 5 st)) (hN : okN st) (ri_a : r32 a) (ri_b : r32 b) (ri_v : r32 v) : Cx 1 (0, 0) yX9_damage cX9_damage 5 (some .int) [zR 0, zI a, zI b, zI v] nx h (fun rr nx' l' => nx' = nx ∧ ((¬ ((0 ≤ a ∧ a ≤ 3) ∧ (0 ≤ b ∧ b ≤ 9) ∧ (0 ≤ v ∧ v ≤ 100)) ∧ rr = some (zI (-2)) ∧ l' = []) ∨ (∃ c s : Nat, a = ((c : Nat) : Int) ∧ b = ((s : Nat) : Int) ∧ c < 4 ∧ s < 10 ∧ (0 ≤ v ∧ v ≤ 100) ∧ rr = some (zI (dm c s)) ∧ l' = [(55 + c, oA 0 10 (fup (dm c) s v))]))) := by
  refine cx_of pnX9_damage (Nat.le_of_ble_eq_true rfl) ?_
  intro K G hr hnm hR
  obtain ⟨h2, h3, h4, h5, h6, h7, h8, h9, h10⟩ := id hQ
  have hn40 := hO.1
  obtain ⟨h48, h49, h50, h51, h52, h53, h54, h55, h56, h57, h58, h59, h60, h61, h62, h63⟩ := id hG
  have hn12 := hH.1
  have ln12 := hL.1
  obtain ⟨hN0, hN1, hN2, hN3, hN4⟩ := id hN
  show Wp K 5 (Mx K h (fun rr nx' l' => nx' = nx ∧ ((¬ ((0 ≤ a ∧ a ≤ 3) ∧ (0 ≤ b ∧ b ≤ 9) ∧ (0 ≤ v ∧ v ≤ 100)) ∧ rr = some (zI (-2)) ∧ l' = []) ∨ (∃ c s : Nat, a = ((c : Nat) : Int) ∧ b = ((s : Nat) : Int) ∧ c < 4 ∧ s < 10 ∧ (0 ≤ v ∧ v ≤ 100) ∧ rr = some (zI (dm c s)) ∧ l' = [(55 + c, oA 0 10 (fup (dm c) s v))]))) (0, 0)) (0, 0) 0 [(0, zR 0), (1, zI a), (2, zI b), (3, zI v)] [] (nx, h, [])
  refine wp_iload_n G 1 dX9_damage_0 rfl ?_
  refine wp_iconst G dX9_damage_1 ?_
  refine wp_iconst G dX9_damage_2 ?_
  refine wp_cSE (as := [zI a, zI 0, zI 3]) (rest := []) (hp2 := (nx, h, [])) G mX9_within lX9_127 sX9_within dX9_damage_3 rfl rfl (Nat.le_of_ble_eq_true rfl) (rmx_ok hR (by decide) (by decide) (by decide) (by decide)) (t_X9_within (nx := nx) (v := a) (lo := 0) (hi := 3) (by omega) (by omega) (by omega)) rfl ?_
  refine wp_ifeq_bt G dX9_damage_6 (fun kq1 => ?_) (fun kq1 => ?_)
  · skip
    refine wp_bipush G dX9_damage_29 (by decide) ?_
    exact wp_ireturn G hr dX9_damage_31 (by exact ⟨rfl, Or.inl (⟨by omega, rfl, rfl⟩)⟩)
  · skip
    refine wp_iload_n G 2 dX9_damage_9 rfl ?_
    refine wp_iconst G dX9_damage_10 ?_
    refine wp_bipush G dX9_damage_11 (by decide) ?_
    refine wp_cSE (as := [zI b, zI 0, zI 9]) (rest := []) (hp2 := (nx, h, [])) G mX9_within lX9_127 sX9_within dX9_damage_13 rfl rfl (Nat.le_of_ble_eq_true rfl) (rmx_ok hR (by decide) (by decide) (by decide) (by decide)) (t_X9_within (nx := nx) (v := b) (lo := 0) (hi := 9) (by omega) (by omega) (by omega)) rfl ?_
    refine wp_ifeq_bt G dX9_damage_16 (fun kq2 => ?_) (fun kq2 => ?_)
    · skip
      refine wp_bipush G dX9_damage_29 (by decide) ?_
      exact wp_ireturn G hr dX9_damage_31 (by exact ⟨rfl, Or.inl (⟨by omega, rfl, rfl⟩)⟩)
    · skip
      refine wp_iload_n G 3 dX9_damage_19 rfl ?_
      refine wp_iconst G dX9_damage_20 ?_
      refine wp_bipush G dX9_damage_21 (by decide) ?_
      refine wp_cSE (as := [zI v, zI 0, zI 100]) (rest := []) (hp2 := (nx, h, [])) G mX9_within lX9_127 sX9_within dX9_damage_23 rfl rfl (Nat.le_of_ble_eq_true rfl) (rmx_ok hR (by decide) (by decide) (by decide) (by decide)) (t_X9_within (nx := nx) (v := v) (lo := 0) (hi := 100) ri_v (by omega) (by omega)) rfl ?_
      refine wp_ifne_bt G dX9_damage_26 (fun kq3 => ?_) (fun kq3 => ?_)
      · skip
        rcases (show a = 0 ∨ a = 1 ∨ a = 2 ∨ a = 3 by omega) with rfl | rfl | rfl | rfl
        · skip
          refine wp_aload_n G 0 dX9_damage_32 rfl ?_
          refine wp_get G 9 cOk8 fX9_68 dX9_damage_33 h0 rfl ?_
          obtain ⟨bb, e_bb⟩ := Int.eq_ofNat_of_zero_le (show 0 ≤ b from (by omega))
          subst e_bb
          refine wp_get G 6 cOk2 fX9_287 dX9_damage_36 h48 rfl ?_
          refine wp_iload_n G 1 dX9_damage_39 rfl ?_
          refine wp_aald (j := 0) G (by decide) (by decide) dX9_damage_40 h54 rfl (by decide) (by decide) ?_
          show Wp K 5 (Mx K h (fun rr nx' l' => nx' = nx ∧ ((¬ ((0 ≤ 0 ∧ 0 ≤ 3) ∧ (0 ≤ ((bb : Nat) : Int) ∧ ((bb : Nat) : Int) ≤ 9) ∧ (0 ≤ v ∧ v ≤ 100)) ∧ rr = some (zI (-2)) ∧ l' = []) ∨ (∃ c s : Nat, 0 = ((c : Nat) : Int) ∧ ((bb : Nat) : Int) = ((s : Nat) : Int) ∧ c < 4 ∧ s < 10 ∧ (0 ≤ v ∧ v ≤ 100) ∧ rr = some (zI (dm c s)) ∧ l' = [(55 + c, oA 0 10 (fup (dm c) s v))]))) (0, 0)) (0, 0) 41 [(0, zR 0), (1, zI 0), (2, zI ((bb : Nat) : Int)), (3, zI v)] [zR 55] (nx, h, [])
          refine wp_iload_n G 2 dX9_damage_41 rfl ?_
          refine wp_iald (j := bb) G dX9_damage_42 h55 rfl (by omega) (by decide) ?_
          have rrq1 := (hD 0 (by decide)) bb (by omega)
          refine wp_istore (lv' := [(4, zI ((dm 0) bb)), (0, zR 0), (1, zI 0), (2, zI ((bb : Nat) : Int)), (3, zI v)]) G dX9_damage_43 (by decide) rfl ?_
          refine wp_aload_n G 1 dX9_damage_45 rfl ?_
          refine wp_get G 9 cOk8 fX9_68 dX9_damage_46 h0 rfl ?_
          refine wp_get G 6 cOk2 fX9_287 dX9_damage_49 h48 rfl ?_
          refine wp_iload_n G 2 dX9_damage_52 rfl ?_
          refine wp_aald (j := 0) G (by decide) (by decide) dX9_damage_53 h54 rfl (by decide) (by decide) ?_
          show Wp K 5 (Mx K h (fun rr nx' l' => nx' = nx ∧ ((¬ ((0 ≤ 0 ∧ 0 ≤ 3) ∧ (0 ≤ ((bb : Nat) : Int) ∧ ((bb : Nat) : Int) ≤ 9) ∧ (0 ≤ v ∧ v ≤ 100)) ∧ rr = some (zI (-2)) ∧ l' = []) ∨ (∃ c s : Nat, 0 = ((c : Nat) : Int) ∧ ((bb : Nat) : Int) = ((s : Nat) : Int) ∧ c < 4 ∧ s < 10 ∧ (0 ≤ v ∧ v ≤ 100) ∧ rr = some (zI (dm c s)) ∧ l' = [(55 + c, oA 0 10 (fup (dm c) s v))]))) (0, 0)) (0, 0) 54 [(4, zI ((dm 0) bb)), (0, zR 0), (1, zI 0), (2, zI ((bb : Nat) : Int)), (3, zI v)] [zR 55] (nx, h, [])
          refine wp_iload_n G 3 dX9_damage_54 rfl ?_
          refine wp_iload_n G 4 dX9_damage_55 rfl ?_
          refine wp_iastE (j := bb) (hp2 := (nx, h, [(55, oA 0 10 (fup (dm 0) bb v))])) G dX9_damage_56 h55 rfl (by omega) (by decide) rfl ?_
          refine wp_iload G 0 dX9_damage_57 rfl ?_
          exact wp_ireturn G hr dX9_damage_59 (by exact ⟨rfl, Or.inr (⟨0, bb, rfl, rfl, by omega, by omega, by omega, rfl, rfl⟩)⟩)
        · skip
          refine wp_aload_n G 0 dX9_damage_32 rfl ?_
          refine wp_get G 9 cOk8 fX9_68 dX9_damage_33 h0 rfl ?_
          obtain ⟨bb, e_bb⟩ := Int.eq_ofNat_of_zero_le (show 0 ≤ b from (by omega))
          subst e_bb
          refine wp_get G 6 cOk2 fX9_287 dX9_damage_36 h48 rfl ?_
          refine wp_iload_n G 1 dX9_damage_39 rfl ?_
          refine wp_aald (j := 1) G (by decide) (by decide) dX9_damage_40 h54 rfl (by decide) (by decide) ?_
          show Wp K 5 (Mx K h (fun rr nx' l' => nx' = nx ∧ ((¬ ((0 ≤ 1 ∧ 1 ≤ 3) ∧ (0 ≤ ((bb : Nat) : Int) ∧ ((bb : Nat) : Int) ≤ 9) ∧ (0 ≤ v ∧ v ≤ 100)) ∧ rr = some (zI (-2)) ∧ l' = []) ∨ (∃ c s : Nat, 1 = ((c : Nat) : Int) ∧ ((bb : Nat) : Int) = ((s : Nat) : Int) ∧ c < 4 ∧ s < 10 ∧ (0 ≤ v ∧ v ≤ 100) ∧ rr = some (zI (dm c s)) ∧ l' = [(55 + c, oA 0 10 (fup (dm c) s v))]))) (0, 0)) (0, 0) 41 [(0, zR 0), (1, zI 1), (2, zI ((bb : Nat) : Int)), (3, zI v)] [zR 56] (nx, h, [])
          refine wp_iload_n G 2 dX9_damage_41 rfl ?_
          refine wp_iald (j := bb) G dX9_damage_42 h56 rfl (by omega) (by decide) ?_
          have rrq2 := (hD 1 (by decide)) bb (by omega)
          refine wp_istore (lv' := [(4, zI ((dm 1) bb)), (0, zR 0), (1, zI 1), (2, zI ((bb : Nat) : Int)), (3, zI v)]) G dX9_damage_43 (by decide) rfl ?_
          refine wp_aload_n G 1 dX9_damage_45 rfl ?_
          refine wp_get G 9 cOk8 fX9_68 dX9_damage_46 h0 rfl ?_
          refine wp_get G 6 cOk2 fX9_287 dX9_damage_49 h48 rfl ?_
          refine wp_iload_n G 2 dX9_damage_52 rfl ?_
          refine wp_aald (j := 1) G (by decide) (by decide) dX9_damage_53 h54 rfl (by decide) (by decide) ?_
          show Wp K 5 (Mx K h (fun rr nx' l' => nx' = nx ∧ ((¬ ((0 ≤ 1 ∧ 1 ≤ 3) ∧ (0 ≤ ((bb : Nat) : Int) ∧ ((bb : Nat) : Int) ≤ 9) ∧ (0 ≤ v ∧ v ≤ 100)) ∧ rr = some (zI (-2)) ∧ l' = []) ∨ (∃ c s : Nat, 1 = ((c : Nat) : Int) ∧ ((bb : Nat) : Int) = ((s : Nat) : Int) ∧ c < 4 ∧ s < 10 ∧ (0 ≤ v ∧ v ≤ 100) ∧ rr = some (zI (dm c s)) ∧ l' = [(55 + c, oA 0 10 (fup (dm c) s v))]))) (0, 0)) (0, 0) 54 [(4, zI ((dm 1) bb)), (0, zR 0), (1, zI 1), (2, zI ((bb : Nat) : Int)), (3, zI v)] [zR 56] (nx, h, [])
          refine wp_iload_n G 3 dX9_damage_54 rfl ?_
          refine wp_iload_n G 4 dX9_damage_55 rfl ?_
          refine wp_iastE (j := bb) (hp2 := (nx, h, [(56, oA 0 10 (fup (dm 1) bb v))])) G dX9_damage_56 h56 rfl (by omega) (by decide) rfl ?_
          refine wp_iload G 0 dX9_damage_57 rfl ?_
          exact wp_ireturn G hr dX9_damage_59 (by exact ⟨rfl, Or.inr (⟨1, bb, rfl, rfl, by omega, by omega, by omega, rfl, rfl⟩)⟩)
        · skip
          refine wp_aload_n G 0 dX9_damage_32 rfl ?_
          refine wp_get G 9 cOk8 fX9_68 dX9_damage_33 h0 rfl ?_
          obtain ⟨bb, e_bb⟩ := Int.eq_ofNat_of_zero_le (show 0 ≤ b from (by omega))
          subst e_bb
          refine wp_get G 6 cOk2 fX9_287 dX9_damage_36 h48 rfl ?_
          refine wp_iload_n G 1 dX9_damage_39 rfl ?_
          refine wp_aald (j := 2) G (by decide) (by decide) dX9_damage_40 h54 rfl (by decide) (by decide) ?_
          show Wp K 5 (Mx K h (fun rr nx' l' => nx' = nx ∧ ((¬ ((0 ≤ 2 ∧ 2 ≤ 3) ∧ (0 ≤ ((bb : Nat) : Int) ∧ ((bb : Nat) : Int) ≤ 9) ∧ (0 ≤ v ∧ v ≤ 100)) ∧ rr = some (zI (-2)) ∧ l' = []) ∨ (∃ c s : Nat, 2 = ((c : Nat) : Int) ∧ ((bb : Nat) : Int) = ((s : Nat) : Int) ∧ c < 4 ∧ s < 10 ∧ (0 ≤ v ∧ v ≤ 100) ∧ rr = some (zI (dm c s)) ∧ l' = [(55 + c, oA 0 10 (fup (dm c) s v))]))) (0, 0)) (0, 0) 41 [(0, zR 0), (1, zI 2), (2, zI ((bb : Nat) : Int)), (3, zI v)] [zR 57] (nx, h, [])
          refine wp_iload_n G 2 dX9_damage_41 rfl ?_
          refine wp_iald (j := bb) G dX9_damage_42 h57 rfl (by omega) (by decide) ?_
          have rrq3 := (hD 2 (by decide)) bb (by omega)
          refine wp_istore (lv' := [(4, zI ((dm 2) bb)), (0, zR 0), (1, zI 2), (2, zI ((bb : Nat) : Int)), (3, zI v)]) G dX9_damage_43 (by decide) rfl ?_
          refine wp_aload_n G 1 dX9_damage_45 rfl ?_
          refine wp_get G 9 cOk8 fX9_68 dX9_damage_46 h0 rfl ?_
          refine wp_get G 6 cOk2 fX9_287 dX9_damage_49 h48 rfl ?_
          refine wp_iload_n G 2 dX9_damage_52 rfl ?_
          refine wp_aald (j := 2) G (by decide) (by decide) dX9_damage_53 h54 rfl (by decide) (by decide) ?_
          show Wp K 5 (Mx K h (fun rr nx' l' => nx' = nx ∧ ((¬ ((0 ≤ 2 ∧ 2 ≤ 3) ∧ (0 ≤ ((bb : Nat) : Int) ∧ ((bb : Nat) : Int) ≤ 9) ∧ (0 ≤ v ∧ v ≤ 100)) ∧ rr = some (zI (-2)) ∧ l' = []) ∨ (∃ c s : Nat, 2 = ((c : Nat) : Int) ∧ ((bb : Nat) : Int) = ((s : Nat) : Int) ∧ c < 4 ∧ s < 10 ∧ (0 ≤ v ∧ v ≤ 100) ∧ rr = some (zI (dm c s)) ∧ l' = [(55 + c, oA 0 10 (fup (dm c) s v))]))) (0, 0)) (0, 0) 54 [(4, zI ((dm 2) bb)), (0, zR 0), (1, zI 2), (2, zI ((bb : Nat) : Int)), (3, zI v)] [zR 57] (nx, h, [])
          refine wp_iload_n G 3 dX9_damage_54 rfl ?_
          refine wp_iload_n G 4 dX9_damage_55 rfl ?_
          refine wp_iastE (j := bb) (hp2 := (nx, h, [(57, oA 0 10 (fup (dm 2) bb v))])) G dX9_damage_56 h57 rfl (by omega) (by decide) rfl ?_
          refine wp_iload G 0 dX9_damage_57 rfl ?_
          exact wp_ireturn G hr dX9_damage_59 (by exact ⟨rfl, Or.inr (⟨2, bb, rfl, rfl, by omega, by omega, by omega, rfl, rfl⟩)⟩)
        · skip
          refine wp_aload_n G 0 dX9_damage_32 rfl ?_
          refine wp_get G 9 cOk8 fX9_68 dX9_damage_33 h0 rfl ?_
          obtain ⟨bb, e_bb⟩ := Int.eq_ofNat_of_zero_le (show 0 ≤ b from (by omega))
          subst e_bb
          refine wp_get G 6 cOk2 fX9_287 dX9_damage_36 h48 rfl ?_
          refine wp_iload_n G 1 dX9_damage_39 rfl ?_
          refine wp_aald (j := 3) G (by decide) (by decide) dX9_damage_40 h54 rfl (by decide) (by decide) ?_
          show Wp K 5 (Mx K h (fun rr nx' l' => nx' = nx ∧ ((¬ ((0 ≤ 3 ∧ 3 ≤ 3) ∧ (0 ≤ ((bb : Nat) : Int) ∧ ((bb : Nat) : Int) ≤ 9) ∧ (0 ≤ v ∧ v ≤ 100)) ∧ rr = some (zI (-2)) ∧ l' = []) ∨ (∃ c s : Nat, 3 = ((c : Nat) : Int) ∧ ((bb : Nat) : Int) = ((s : Nat) : Int) ∧ c < 4 ∧ s < 10 ∧ (0 ≤ v ∧ v ≤ 100) ∧ rr = some (zI (dm c s)) ∧ l' = [(55 + c, oA 0 10 (fup (dm c) s v))]))) (0, 0)) (0, 0) 41 [(0, zR 0), (1, zI 3), (2, zI ((bb : Nat) : Int)), (3, zI v)] [zR 58] (nx, h, [])
          refine wp_iload_n G 2 dX9_damage_41 rfl ?_
          refine wp_iald (j := bb) G dX9_damage_42 h58 rfl (by omega) (by decide) ?_
          have rrq4 := (hD 3 (by decide)) bb (by omega)
          refine wp_istore (lv' := [(4, zI ((dm 3) bb)), (0, zR 0), (1, zI 3), (2, zI ((bb : Nat) : Int)), (3, zI v)]) G dX9_damage_43 (by decide) rfl ?_
          refine wp_aload_n G 1 dX9_damage_45 rfl ?_
          refine wp_get G 9 cOk8 fX9_68 dX9_damage_46 h0 rfl ?_
          refine wp_get G 6 cOk2 fX9_287 dX9_damage_49 h48 rfl ?_
          refine wp_iload_n G 2 dX9_damage_52 rfl ?_
          refine wp_aald (j := 3) G (by decide) (by decide) dX9_damage_53 h54 rfl (by decide) (by decide) ?_
          show Wp K 5 (Mx K h (fun rr nx' l' => nx' = nx ∧ ((¬ ((0 ≤ 3 ∧ 3 ≤ 3) ∧ (0 ≤ ((bb : Nat) : Int) ∧ ((bb : Nat) : Int) ≤ 9) ∧ (0 ≤ v ∧ v ≤ 100)) ∧ rr = some (zI (-2)) ∧ l' = []) ∨ (∃ c s : Nat, 3 = ((c : Nat) : Int) ∧ ((bb : Nat) : Int) = ((s : Nat) : Int) ∧ c < 4 ∧ s < 10 ∧ (0 ≤ v ∧ v ≤ 100) ∧ rr = some (zI (dm c s)) ∧ l' = [(55 + c, oA 0 10 (fup (dm c) s v))]))) (0, 0)) (0, 0) 54 [(4, zI ((dm 3) bb)), (0, zR 0), (1, zI 3), (2, zI ((bb : Nat) : Int)), (3, zI v)] [zR 58] (nx, h, [])
          refine wp_iload_n G 3 dX9_damage_54 rfl ?_
          refine wp_iload_n G 4 dX9_damage_55 rfl ?_
          refine wp_iastE (j := bb) (hp2 := (nx, h, [(58, oA 0 10 (fup (dm 3) bb v))])) G dX9_damage_56 h58 rfl (by omega) (by decide) rfl ?_
          refine wp_iload G 0 dX9_damage_57 rfl ?_
          exact wp_ireturn G hr dX9_damage_59 (by exact ⟨rfl, Or.inr (⟨3, bb, rfl, rfl, by omega, by omega, by omega, rfl, rfl⟩)⟩)
      · skip
        refine wp_bipush G dX9_damage_29 (by decide) ?_
        exact wp_ireturn G hr dX9_damage_31 (by exact ⟨rfl, Or.inl (⟨by omega, rfl, rfl⟩)⟩)

set_option maxRecDepth 100000 in
set_option maxHeartbeats 4000000 in
theorem t_X10_damage {nx : Nat} {h : Nat → Option PC} {n : Nat} {q : Nat → Nat → Int} {o : Nat → Nat} {fc : Nat} {hn : Nat} {ln : Nat} {ma : Int} {mb : Int} {st : Nat → Int} {hs : Nat → Nat → Int} {kd : Nat → Nat} {dm : Nat → Nat → Int} {lw : Nat → Nat → Int} {a : Int} {b : Int} {v : Int} (hQ : isM h n q o fc hn ln ma mb st) (hO : okQ n q o) (hN : okN st) (hG : isMg h hs kd dm lw) (hH : okH hn hs kd) (hD : okD dm) (hL : okL ln lw) (ri_a : r32 a) (ri_b : r32 b) (ri_v : r32 v) : Cx 1 (0, 0) yX10_damage cX10_damage 5 (some .int) [zR 64, zI a, zI b, zI v] nx h (fun rr nx' l' => nx' = nx ∧ ((¬ ((0 ≤ a ∧ a ≤ 3) ∧ (0 ≤ b ∧ b ≤ 9) ∧ (0 ≤ v ∧ v ≤ 100)) ∧ rr = some (zI (-2)) ∧ l' = []) ∨ (∃ c s : Nat, a = ((c : Nat) : Int) ∧ b = ((s : Nat) : Int) ∧ c < 4 ∧ s < 10 ∧ (0 ≤ v ∧ v ≤ 100) ∧ rr = some (zI (dm c s)) ∧ l' = [(88, oA 0 40 (fup (fun t => dm (t / 10) (t % 10)) (10 * c + s) v))]))) := by
  refine cx_of pnX10_damage (Nat.le_of_ble_eq_true rfl) ?_
  intro K G hr hnm hR
  obtain ⟨h64, h65, h66, h67, h68, h69, h70, h71, h72, h73⟩ := id hQ
  have hn40 := hO.1
  obtain ⟨hN0, hN1, hN2, hN3, hN4⟩ := id hN
  obtain ⟨h83, h84, h85, h86, h87, h88, h89, h90, h91, h92⟩ := id hG
  have hn12 := hH.1
  have ln12 := hL.1
  show Wp K 5 (Mx K h (fun rr nx' l' => nx' = nx ∧ ((¬ ((0 ≤ a ∧ a ≤ 3) ∧ (0 ≤ b ∧ b ≤ 9) ∧ (0 ≤ v ∧ v ≤ 100)) ∧ rr = some (zI (-2)) ∧ l' = []) ∨ (∃ c s : Nat, a = ((c : Nat) : Int) ∧ b = ((s : Nat) : Int) ∧ c < 4 ∧ s < 10 ∧ (0 ≤ v ∧ v ≤ 100) ∧ rr = some (zI (dm c s)) ∧ l' = [(88, oA 0 40 (fup (fun t => dm (t / 10) (t % 10)) (10 * c + s) v))]))) (0, 0)) (0, 0) 0 [(0, zR 64), (1, zI a), (2, zI b), (3, zI v)] [] (nx, h, [])
  refine wp_iload_n G 1 dX10_damage_0 rfl ?_
  refine wp_i2l G (by omega) dX10_damage_1 ?_
  refine wp_lconst (z := 0) G dX10_damage_2 (by decide) ?_
  refine wp_ldc2 (z := 3) G kX10_232 dX10_damage_3 ?_
  refine wp_cSE (as := [zJ a, zJ 0, zJ 3]) (rest := []) (hp2 := (nx, h, [])) G mX10_in lX10_100 sX10_in dX10_damage_6 rfl rfl (Nat.le_of_ble_eq_true rfl) (rmx_ok hR (by decide) (by decide) (by decide) (by decide)) (t_X10_in (nx := nx) (v := a) (lo := 0) (hi := 3) (by omega) (by omega) (by omega)) rfl ?_
  refine wp_ifeq_bt G dX10_damage_9 (fun kq1 => ?_) (fun kq1 => ?_)
  · skip
    refine wp_bipush G dX10_damage_36 (by decide) ?_
    exact wp_ireturn G hr dX10_damage_38 (by exact ⟨rfl, Or.inl (⟨by omega, rfl, rfl⟩)⟩)
  · skip
    refine wp_iload_n G 2 dX10_damage_12 rfl ?_
    refine wp_i2l G (by omega) dX10_damage_13 ?_
    refine wp_lconst (z := 0) G dX10_damage_14 (by decide) ?_
    refine wp_ldc2 (z := 9) G kX10_204 dX10_damage_15 ?_
    refine wp_cSE (as := [zJ b, zJ 0, zJ 9]) (rest := []) (hp2 := (nx, h, [])) G mX10_in lX10_100 sX10_in dX10_damage_18 rfl rfl (Nat.le_of_ble_eq_true rfl) (rmx_ok hR (by decide) (by decide) (by decide) (by decide)) (t_X10_in (nx := nx) (v := b) (lo := 0) (hi := 9) (by omega) (by omega) (by omega)) rfl ?_
    refine wp_ifeq_bt G dX10_damage_21 (fun kq2 => ?_) (fun kq2 => ?_)
    · skip
      refine wp_bipush G dX10_damage_36 (by decide) ?_
      exact wp_ireturn G hr dX10_damage_38 (by exact ⟨rfl, Or.inl (⟨by omega, rfl, rfl⟩)⟩)
    · skip
      refine wp_iload_n G 3 dX10_damage_24 rfl ?_
      refine wp_i2l G (by omega) dX10_damage_25 ?_
      refine wp_lconst (z := 0) G dX10_damage_26 (by decide) ?_
      refine wp_ldc2 (z := 100) G kX10_198 dX10_damage_27 ?_
      refine wp_cSE (as := [zJ v, zJ 0, zJ 100]) (rest := []) (hp2 := (nx, h, [])) G mX10_in lX10_100 sX10_in dX10_damage_30 rfl rfl (Nat.le_of_ble_eq_true rfl) (rmx_ok hR (by decide) (by decide) (by decide) (by decide)) (t_X10_in (nx := nx) (v := v) (lo := 0) (hi := 100) (by omega) (by omega) (by omega)) rfl ?_
      refine wp_ifne_bt G dX10_damage_33 (fun kq3 => ?_) (fun kq3 => ?_)
      · skip
        obtain ⟨aa, e_aa⟩ := Int.eq_ofNat_of_zero_le (show 0 ≤ a from (by omega))
        subst e_aa
        refine wp_aload_n G 0 dX10_damage_39 rfl ?_
        obtain ⟨bb, e_bb⟩ := Int.eq_ofNat_of_zero_le (show 0 ≤ b from (by omega))
        subst e_bb
        refine wp_get G 28 cOk9 fX10_81 dX10_damage_40 h64 rfl ?_
        refine wp_bipush G dX10_damage_43 (by decide) ?_
        refine wp_iload_n G 1 dX10_damage_45 rfl ?_
        refine wp_imul G dX10_damage_46 ?_
        refine wp_iload_n G 2 dX10_damage_47 rfl ?_
        refine wp_iadd G dX10_damage_48 ?_
        refine wp_iald (j := 10 * aa + bb) G dX10_damage_49 h88 (by omega) (by omega) (by decide) ?_
        rw [show ((dm ((10 * aa + bb) / 10) ((10 * aa + bb) % 10)) : Int) = (dm aa bb) by rw [show (10 * aa + bb) / 10 = aa by omega, show (10 * aa + bb) % 10 = bb by omega]]
        refine wp_istore (lv' := [(4, zI (dm aa bb)), (0, zR 64), (1, zI ((aa : Nat) : Int)), (2, zI ((bb : Nat) : Int)), (3, zI v)]) G dX10_damage_50 (by decide) rfl ?_
        refine wp_aload_n G 1 dX10_damage_52 rfl ?_
        refine wp_get G 28 cOk9 fX10_81 dX10_damage_53 h64 rfl ?_
        refine wp_bipush G dX10_damage_56 (by decide) ?_
        refine wp_iload_n G 2 dX10_damage_58 rfl ?_
        refine wp_imul G dX10_damage_59 ?_
        refine wp_iload_n G 3 dX10_damage_60 rfl ?_
        refine wp_iadd G dX10_damage_61 ?_
        refine wp_iload_n G 4 dX10_damage_62 rfl ?_
        refine wp_iastE (j := 10 * aa + bb) (hp2 := (nx, h, [(88, oA 0 40 (fup (fun t => dm (t / 10) (t % 10)) (10 * aa + bb) v))])) G dX10_damage_63 h88 (by omega) (by omega) (by decide) rfl ?_
        refine wp_iload G 0 dX10_damage_64 rfl ?_
        exact wp_ireturn G hr dX10_damage_66 (by exact ⟨rfl, Or.inr (⟨aa, bb, rfl, rfl, by omega, by omega, by omega, rfl, rfl⟩)⟩)
      · skip
        refine wp_bipush G dX10_damage_36 (by decide) ?_
        exact wp_ireturn G hr dX10_damage_38 (by exact ⟨rfl, Or.inl (⟨by omega, rfl, rfl⟩)⟩)

set_option maxRecDepth 100000 in
set_option maxHeartbeats 4000000 in
theorem t_X9_loss {nx : Nat} {h : Nat → Option PC} {n : Nat} {q : Nat → Nat → Int} {o : Nat → Nat} {hn : Nat} {hs : Nat → Nat → Int} {kd : Nat → Nat} {dm : Nat → Nat → Int} {ln : Nat} {lw : Nat → Nat → Int} {gn : Nat → Int} {fc : Nat} {st : Nat → Int} {v : Int} (hQ : isQ h n q o) (hO : okQ n q o) (hG : isG h hn hs kd dm ln lw gn) (hH : okH hn hs kd) (hD : okD dm) (hL : okL ln lw) (h0 : h 0 = some (oO 8 [zR 1, zR 2, zR 11, zR 34, zR 36, zR 42, zR 44, zI ((fc : Nat) : Int), zR 45, zR 48])) (h1 : h 1 = some (oA 0 5 st)) (hN : okN st) (ri_v : r32 v) : Cx 5 (0, 0) yX9_loss cX9_loss 2 (some .int) [zR 0, zI v] nx h (Rt (zI (ansL n q hn hs kd dm st v)) nx []) := by
  refine cx_of pnX9_loss (Nat.le_of_ble_eq_true rfl) ?_
  intro K G hr hnm hR
  obtain ⟨h2, h3, h4, h5, h6, h7, h8, h9, h10⟩ := id hQ
  have hn40 := hO.1
  obtain ⟨h48, h49, h50, h51, h52, h53, h54, h55, h56, h57, h58, h59, h60, h61, h62, h63⟩ := id hG
  have hn12 := hH.1
  have ln12 := hL.1
  obtain ⟨hN0, hN1, hN2, hN3, hN4⟩ := id hN
  show Wp K 2 (Mx K h (Rt (zI (ansL n q hn hs kd dm st v)) nx []) (0, 0)) (0, 0) 0 [(0, zR 0), (1, zI v)] [] (nx, h, [])
  refine wp_aload_n G 0 dX9_loss_0 rfl ?_
  refine wp_get G 1 cOk8 fX9_16 dX9_loss_1 h0 rfl ?_
  refine wp_iload_n G 1 dX9_loss_4 rfl ?_
  refine wp_cVE (b := 2) (ci := 5) (as := [zI v]) (rest := []) (hp2 := (nx, h, [])) G mX6_has lX9_94 iX6_has eX6_has ⟨_, rfl, rfl⟩ dX9_loss_5 h2 rfl rfl (Nat.le_of_ble_eq_true rfl) (rmx_ok hR (by decide) (by decide) (by decide) (by decide)) (t_X6_has (nx := nx) (v := v) hQ hO ri_v) rfl ?_
  refine wp_ifne_bt G dX9_loss_8 (fun kq1 => ?_) (fun kq1 => ?_)
  · skip
    obtain ⟨vv, e_vv⟩ := Int.eq_ofNat_of_zero_le (show 0 ≤ v from (by omega))
    subst e_vv
    refine wp_aload_n G 0 dX9_loss_13 rfl ?_
    refine wp_get G 9 cOk8 fX9_68 dX9_loss_14 h0 rfl ?_
    refine wp_aload_n G 0 dX9_loss_17 rfl ?_
    refine wp_get G 1 cOk8 fX9_16 dX9_loss_18 h0 rfl ?_
    refine wp_iload_n G 1 dX9_loss_21 rfl ?_
    refine wp_aload_n G 0 dX9_loss_22 rfl ?_
    refine wp_get G 0 cOk8 fX9_7 dX9_loss_23 h0 rfl ?_
    refine wp_iconst G dX9_loss_26 ?_
    refine wp_iald (j := 4) G dX9_loss_27 h1 rfl (by decide) (by decide) ?_
    have rrq1 := hN.r 4 (by decide)
    refine wp_cVE (b := 48) (ci := 2) (as := [zR 2, zI ((vv : Nat) : Int), zI (st 4)]) (rest := []) (hp2 := (nx, h, [])) G mX2_lossByQuake lX9_291 iX2_lossByQuake eX2_lossByQuake ⟨_, rfl, rfl⟩ dX9_loss_28 h48 rfl rfl (Nat.le_of_ble_eq_true rfl) (rmx_ok hR (by decide) (by decide) (by decide) (by decide)) (t_X2_lossByQuake (nx := nx) (j := vv) (f := (st 4)) hQ hO hG hH hD hL (by omega) hN4) rfl ?_
    exact wp_ireturn G hr dX9_loss_31 ⟨by first | (rw [ansL, if_neg (by omega)]; done) | (rw [ansL, if_pos (by omega)]; simp only [Int.toNat_natCast]), rfl, by rfl⟩
  · skip
    refine wp_iconst G dX9_loss_11 ?_
    exact wp_ireturn G hr dX9_loss_12 ⟨by first | (rw [ansL, if_neg (by omega)]; done) | (rw [ansL, if_pos (by omega)]; simp only [Int.toNat_natCast]), rfl, by rfl⟩

set_option maxRecDepth 100000 in
set_option maxHeartbeats 4000000 in
theorem t_X10_loss {nx : Nat} {h : Nat → Option PC} {n : Nat} {q : Nat → Nat → Int} {o : Nat → Nat} {fc : Nat} {hn : Nat} {ln : Nat} {ma : Int} {mb : Int} {st : Nat → Int} {hs : Nat → Nat → Int} {kd : Nat → Nat} {dm : Nat → Nat → Int} {lw : Nat → Nat → Int} {v : Int} (hQ : isM h n q o fc hn ln ma mb st) (hO : okQ n q o) (hN : okN st) (hG : isMg h hs kd dm lw) (hH : okH hn hs kd) (hD : okD dm) (hL : okL ln lw) (ri_v : r32 v) : Cx 5 (0, 0) yX10_loss cX10_loss 2 (some .int) [zR 64, zI v] nx h (Rt (zI (ansL n q hn hs kd dm st v)) nx []) := by
  refine cx_of pnX10_loss (Nat.le_of_ble_eq_true rfl) ?_
  intro K G hr hnm hR
  obtain ⟨h64, h65, h66, h67, h68, h69, h70, h71, h72, h73⟩ := id hQ
  have hn40 := hO.1
  obtain ⟨hN0, hN1, hN2, hN3, hN4⟩ := id hN
  obtain ⟨h83, h84, h85, h86, h87, h88, h89, h90, h91, h92⟩ := id hG
  have hn12 := hH.1
  have ln12 := hL.1
  show Wp K 2 (Mx K h (Rt (zI (ansL n q hn hs kd dm st v)) nx []) (0, 0)) (0, 0) 0 [(0, zR 64), (1, zI v)] [] (nx, h, [])
  refine wp_aload_n G 0 dX10_loss_0 rfl ?_
  refine wp_iload_n G 1 dX10_loss_1 rfl ?_
  refine wp_cVE (b := 64) (ci := 9) (as := [zI v]) (rest := []) (hp2 := (nx, h, [])) G mX10_isQuake lX10_126 iX10_isQuake eX10_isQuake ⟨_, rfl, rfl⟩ dX10_loss_2 h64 rfl rfl (Nat.le_of_ble_eq_true rfl) (rmx_ok hR (by decide) (by decide) (by decide) (by decide)) (t_X10_isQuake (nx := nx) (v := v) hQ hO hN ri_v) rfl ?_
  refine wp_ifeq_bt G dX10_loss_5 (fun kq1 => ?_) (fun kq1 => ?_)
  · skip
    refine wp_iconst G dX10_loss_16 ?_
    exact wp_ireturn G hr dX10_loss_17 ⟨by first | (rw [ansL, if_neg (by omega)]; done) | (rw [ansL, if_pos (by omega)]; simp only [Int.toNat_natCast]), rfl, by rfl⟩
  · skip
    obtain ⟨vv, e_vv⟩ := Int.eq_ofNat_of_zero_le (show 0 ≤ v from (by omega))
    subst e_vv
    refine wp_aload_n G 0 dX10_loss_8 rfl ?_
    refine wp_iload_n G 1 dX10_loss_9 rfl ?_
    refine wp_cVE (b := 64) (ci := 9) (as := [zI ((vv : Nat) : Int)]) (rest := []) (hp2 := (nx, h, [])) G mX10_lossOf lX10_302 iX10_lossOf eX10_lossOf ⟨_, rfl, rfl⟩ dX10_loss_10 h64 rfl rfl (Nat.le_of_ble_eq_true rfl) (rmx_ok hR (by decide) (by decide) (by decide) (by decide)) (t_X10_lossOf (nx := nx) (j := vv) hQ hO hN hG hH hD hL (by omega)) rfl ?_
    refine wp_goto G dX10_loss_13 ?_
    exact wp_ireturn G hr dX10_loss_17 ⟨by first | (rw [ansL, if_neg (by omega)]; done) | (rw [ansL, if_pos (by omega)]; simp only [Int.toNat_natCast]), rfl, by rfl⟩

set_option maxRecDepth 100000 in
set_option maxHeartbeats 4000000 in
theorem t_X9_worst {nx : Nat} {h : Nat → Option PC} {n : Nat} {q : Nat → Nat → Int} {o : Nat → Nat} {hn : Nat} {hs : Nat → Nat → Int} {kd : Nat → Nat} {dm : Nat → Nat → Int} {ln : Nat} {lw : Nat → Nat → Int} {gn : Nat → Int} {fc : Nat} {st : Nat → Int} {b : Int} {w : Int} (hQ : isQ h n q o) (hO : okQ n q o) (hG : isG h hn hs kd dm ln lw gn) (hH : okH hn hs kd) (hD : okD dm) (hL : okL ln lw) (h0 : h 0 = some (oO 8 [zR 1, zR 2, zR 11, zR 34, zR 36, zR 42, zR 44, zI ((fc : Nat) : Int), zR 45, zR 48])) (h1 : h 1 = some (oA 0 5 st)) (hN : okN st) (ri_b : r32 b) (ri_w : r32 w) : Cx 6 (0, 0) yX9_worst cX9_worst 4 (some .int) [zR 0, zI b, zI w] nx h (Rt (zI (ansX n q o hn hs kd dm st b w)) nx []) := by
  refine cx_of pnX9_worst (Nat.le_of_ble_eq_true rfl) ?_
  intro K G hr hnm hR
  obtain ⟨h2, h3, h4, h5, h6, h7, h8, h9, h10⟩ := id hQ
  have hn40 := hO.1
  obtain ⟨h48, h49, h50, h51, h52, h53, h54, h55, h56, h57, h58, h59, h60, h61, h62, h63⟩ := id hG
  have hn12 := hH.1
  have ln12 := hL.1
  obtain ⟨hN0, hN1, hN2, hN3, hN4⟩ := id hN
  show Wp K 4 (Mx K h (Rt (zI (ansX n q o hn hs kd dm st b w)) nx []) (0, 0)) (0, 0) 0 [(0, zR 0), (1, zI b), (2, zI w)] [] (nx, h, [])
  refine wp_iload_n G 1 dX9_worst_0 rfl ?_
  refine wp_cSE (as := [zI b]) (rest := []) (hp2 := (nx, h, [])) G mX9_isDay lX9_80 sX9_isDay dX9_worst_1 rfl rfl (Nat.le_of_ble_eq_true rfl) (rmx_ok hR (by decide) (by decide) (by decide) (by decide)) (t_X9_isDay (nx := nx) (v := b) (by omega)) rfl ?_
  refine wp_ifeq_bt G dX9_worst_4 (fun kq1 => ?_) (fun kq1 => ?_)
  · skip
    refine wp_bipush G dX9_worst_16 (by decide) ?_
    exact wp_ireturn G hr dX9_worst_18 ⟨by first | (rw [ansX, if_pos (by omega)]; done) | (rw [ansX, if_neg (by omega), if_pos (by omega)]; done) | (rw [ansX, if_neg (by omega), if_neg (by omega), if_neg (by omega)]; done) | (rw [ansX, if_neg (by omega), if_neg (by omega), if_pos (by omega)]), rfl, by rfl⟩
  · skip
    refine wp_iload_n G 2 dX9_worst_7 rfl ?_
    refine wp_iconst G dX9_worst_8 ?_
    refine wp_iconst G dX9_worst_9 ?_
    refine wp_cSE (as := [zI w, zI 0, zI 1]) (rest := []) (hp2 := (nx, h, [])) G mX9_within lX9_127 sX9_within dX9_worst_10 rfl rfl (Nat.le_of_ble_eq_true rfl) (rmx_ok hR (by decide) (by decide) (by decide) (by decide)) (t_X9_within (nx := nx) (v := w) (lo := 0) (hi := 1) (by omega) (by omega) (by omega)) rfl ?_
    refine wp_ifne_bt G dX9_worst_13 (fun kq2 => ?_) (fun kq2 => ?_)
    · skip
      refine wp_aload_n G 0 dX9_worst_19 rfl ?_
      refine wp_get G 9 cOk8 fX9_68 dX9_worst_20 h0 rfl ?_
      refine wp_aload_n G 0 dX9_worst_23 rfl ?_
      refine wp_get G 1 cOk8 fX9_16 dX9_worst_24 h0 rfl ?_
      refine wp_iload_n G 1 dX9_worst_27 rfl ?_
      refine wp_aload_n G 0 dX9_worst_28 rfl ?_
      refine wp_get G 0 cOk8 fX9_7 dX9_worst_29 h0 rfl ?_
      refine wp_iconst G dX9_worst_32 ?_
      refine wp_iald (j := 4) G dX9_worst_33 h1 rfl (by decide) (by decide) ?_
      have rrq1 := hN.r 4 (by decide)
      refine wp_cVE (b := 48) (ci := 2) (as := [zR 2, zI b, zI (st 4)]) (rest := []) (hp2 := (nx, h, [])) G mX2_worstQuake lX9_294 iX2_worstQuake eX2_worstQuake ⟨_, rfl, rfl⟩ dX9_worst_34 h48 rfl rfl (Nat.le_of_ble_eq_true rfl) (rmx_ok hR (by decide) (by decide) (by decide) (by decide)) (t_X2_worstQuake (nx := nx) (b := b) (f := (st 4)) hQ hO hG hH hD hL ri_b hN4) rfl ?_
      have hwc := ws_c (b := b) (f := st 4) (k := n) hH hD hO hN4 (by omega)
      refine wp_istore_n (lv' := [(3, zI ((wsF o (cnd q (-1) b) (fun j => lsQ hn hs kd dm q j (st 4)) n).1)), (0, zR 0), (1, zI b), (2, zI w)]) G dX9_worst_37 (by decide) rfl ?_
      refine wp_iload_n G 3 dX9_worst_38 rfl ?_
      refine wp_if_ne G dX9_worst_39 (by omega) (fun kq3 => ?_) (fun kq3 => ?_)
      · skip
        refine wp_aload_n G 1 dX9_worst_44 rfl ?_
        refine wp_get G 1 cOk8 fX9_16 dX9_worst_45 h0 rfl ?_
        refine wp_iload_n G 0 dX9_worst_48 rfl ?_
        refine wp_cVE (b := 2) (ci := 5) (as := [zI ((wsF o (cnd q (-1) b) (fun j => lsQ hn hs kd dm q j (st 4)) n).1)]) (rest := []) (hp2 := (nx, h, [])) G mX6_has lX9_94 iX6_has eX6_has ⟨_, rfl, rfl⟩ dX9_worst_49 h2 rfl rfl (Nat.le_of_ble_eq_true rfl) (rmx_ok hR (by decide) (by decide) (by decide) (by decide)) (t_X6_has (nx := nx) (v := ((wsF o (cnd q (-1) b) (fun j => lsQ hn hs kd dm q j (st 4)) n).1)) hQ hO (by omega)) rfl ?_
        refine wp_ifeq_bt G dX9_worst_52 (fun kq4 => ?_) (fun kq4 => ?_)
        · skip
          refine wp_iconst G dX9_worst_76 ?_
          exact wp_ireturn G hr dX9_worst_77 ⟨by first | (rw [ansX, if_pos (by omega)]; done) | (rw [ansX, if_neg (by omega), if_pos (by omega)]; done) | (rw [ansX, if_neg (by omega), if_neg (by omega), if_neg (by omega)]; done) | (rw [ansX, if_neg (by omega), if_neg (by omega), if_pos (by omega)]), rfl, by rfl⟩
        · skip
          rw [show ((wsF o (cnd q (-1) b) (fun j => lsQ hn hs kd dm q j (st 4)) n).1 : Int) = (((wsF o (cnd q (-1) b) (fun j => lsQ hn hs kd dm q j (st 4)) n).1.toNat : Nat) : Int) by omega]
          refine wp_aload_n G 1 dX9_worst_55 rfl ?_
          refine wp_get G 9 cOk8 fX9_68 dX9_worst_56 h0 rfl ?_
          refine wp_aload_n G 1 dX9_worst_59 rfl ?_
          refine wp_get G 1 cOk8 fX9_16 dX9_worst_60 h0 rfl ?_
          refine wp_iload_n G 0 dX9_worst_63 rfl ?_
          refine wp_aload_n G 1 dX9_worst_64 rfl ?_
          refine wp_get G 0 cOk8 fX9_7 dX9_worst_65 h0 rfl ?_
          refine wp_iconst G dX9_worst_68 ?_
          refine wp_iald (j := 4) G dX9_worst_69 h1 rfl (by decide) (by decide) ?_
          have rrq2 := hN.r 4 (by decide)
          refine wp_cVE (b := 48) (ci := 2) (as := [zR 2, zI (((wsF o (cnd q (-1) b) (fun j => lsQ hn hs kd dm q j (st 4)) n).1.toNat : Nat) : Int), zI (st 4)]) (rest := []) (hp2 := (nx, h, [])) G mX2_lossByQuake lX9_291 iX2_lossByQuake eX2_lossByQuake ⟨_, rfl, rfl⟩ dX9_worst_70 h48 rfl rfl (Nat.le_of_ble_eq_true rfl) (rmx_ok hR (by decide) (by decide) (by decide) (by decide)) (t_X2_lossByQuake (nx := nx) (j := ((wsF o (cnd q (-1) b) (fun j => lsQ hn hs kd dm q j (st 4)) n).1.toNat)) (f := (st 4)) hQ hO hG hH hD hL (by omega) hN4) rfl ?_
          refine wp_goto G dX9_worst_73 ?_
          exact wp_ireturn G hr dX9_worst_77 ⟨by first | (rw [ansX, if_pos (by omega)]; done) | (rw [ansX, if_neg (by omega), if_pos (by omega)]; done) | (rw [ansX, if_neg (by omega), if_neg (by omega), if_neg (by omega)]; done) | (rw [ansX, if_neg (by omega), if_neg (by omega), if_pos (by omega)]), rfl, by rfl⟩
      · skip
        refine wp_iload_n G 0 dX9_worst_42 rfl ?_
        exact wp_ireturn G hr dX9_worst_43 ⟨by rw [ansX, if_neg (by omega), if_pos (by omega)], rfl, by rfl⟩
    · skip
      refine wp_bipush G dX9_worst_16 (by decide) ?_
      exact wp_ireturn G hr dX9_worst_18 ⟨by first | (rw [ansX, if_pos (by omega)]; done) | (rw [ansX, if_neg (by omega), if_pos (by omega)]; done) | (rw [ansX, if_neg (by omega), if_neg (by omega), if_neg (by omega)]; done) | (rw [ansX, if_neg (by omega), if_neg (by omega), if_pos (by omega)]), rfl, by rfl⟩

set_option maxRecDepth 100000 in
set_option maxHeartbeats 4000000 in
theorem t_X10_worst {nx : Nat} {h : Nat → Option PC} {n : Nat} {q : Nat → Nat → Int} {o : Nat → Nat} {fc : Nat} {hn : Nat} {ln : Nat} {ma : Int} {mb : Int} {st : Nat → Int} {hs : Nat → Nat → Int} {kd : Nat → Nat} {dm : Nat → Nat → Int} {lw : Nat → Nat → Int} {b : Int} {w : Int} (hQ : isM h n q o fc hn ln ma mb st) (hO : okQ n q o) (hN : okN st) (hG : isMg h hs kd dm lw) (hH : okH hn hs kd) (hD : okD dm) (hL : okL ln lw) (ri_b : r32 b) (ri_w : r32 w) : Cx 5 (0, 0) yX10_worst cX10_worst 6 (some .int) [zR 64, zI b, zI w] nx h (Rt (zI (ansX n q o hn hs kd dm st b w)) nx []) := by
  refine cx_of pnX10_worst (Nat.le_of_ble_eq_true rfl) ?_
  intro K G hr hnm hR
  obtain ⟨h64, h65, h66, h67, h68, h69, h70, h71, h72, h73⟩ := id hQ
  have hn40 := hO.1
  obtain ⟨hN0, hN1, hN2, hN3, hN4⟩ := id hN
  obtain ⟨h83, h84, h85, h86, h87, h88, h89, h90, h91, h92⟩ := id hG
  have hn12 := hH.1
  have ln12 := hL.1
  show Wp K 6 (Mx K h (Rt (zI (ansX n q o hn hs kd dm st b w)) nx []) (0, 0)) (0, 0) 0 [(0, zR 64), (1, zI b), (2, zI w)] [] (nx, h, [])
  refine wp_iload_n G 1 dX10_worst_0 rfl ?_
  refine wp_cSE (as := [zI b]) (rest := []) (hp2 := (nx, h, [])) G mX10_isDay lX10_120 sX10_isDay dX10_worst_1 rfl rfl (Nat.le_of_ble_eq_true rfl) (rmx_ok hR (by decide) (by decide) (by decide) (by decide)) (t_X10_isDay (nx := nx) (v := b) (by omega)) rfl ?_
  refine wp_ifeq_bt G dX10_worst_4 (fun kq1 => ?_) (fun kq1 => ?_)
  · skip
    refine wp_bipush G dX10_worst_17 (by decide) ?_
    exact wp_ireturn G hr dX10_worst_19 ⟨by rw [ansX, if_pos (by omega)], rfl, by rfl⟩
  · skip
    refine wp_iload_n G 2 dX10_worst_7 rfl ?_
    refine wp_i2l G (by omega) dX10_worst_8 ?_
    refine wp_lconst (z := 0) G dX10_worst_9 (by decide) ?_
    refine wp_lconst (z := 1) G dX10_worst_10 (by decide) ?_
    refine wp_cSE (as := [zJ w, zJ 0, zJ 1]) (rest := []) (hp2 := (nx, h, [])) G mX10_in lX10_100 sX10_in dX10_worst_11 rfl rfl (Nat.le_of_ble_eq_true rfl) (rmx_ok hR (by decide) (by decide) (by decide) (by decide)) (t_X10_in (nx := nx) (v := w) (lo := 0) (hi := 1) (by omega) (by omega) (by omega)) rfl ?_
    refine wp_ifne_bt G dX10_worst_14 (fun kq2 => ?_) (fun kq2 => ?_)
    · skip
      refine wp_bipush G dX10_worst_20 (by decide) ?_
      refine wp_istore_n (lv' := [(3, zI (-6)), (0, zR 64), (1, zI b), (2, zI w)]) G dX10_worst_22 (by decide) rfl ?_
      refine wp_iconst G dX10_worst_23 ?_
      refine wp_istore (lv' := [(4, zI 0), (3, zI (-6)), (0, zR 64), (1, zI b), (2, zI w)]) G dX10_worst_24 (by decide) rfl ?_
      refine wp_lv [2, 3, 4, 1, 0] rfl ?_
      suffices lp26 : ∀ (fu : Nat) (k : Nat) (v3 : Int) (v4 : Int), n - k < fu → (v3 = (wsF o (cnd q (-1) b) (fun j => lsQ hn hs kd dm q j (st 4)) k).1) → (v4 = ((k : Nat) : Int)) → (k ≤ n) → Wp K 6 (Mx K h (Rt (zI (ansX n q o hn hs kd dm st b w)) nx []) (0, 0)) (0, 0) 26 [(0, zR 64), (1, zI b), (2, zI w), (3, zI v3), (4, zI v4)] [] (nx, h, []) from lp26 _ 0 (-6) 0 (Nat.lt_succ_self _) (by rfl) (by omega) (by omega)
      intro fu
      induction fu with
      | zero => intro k v3 v4 hm; exact absurd hm (Nat.not_lt_zero _)
      | succ fu ih26 =>
        intro k v3 v4 hm26 e3 e4 hi0
        subst e3
        subst e4
        have hwc := ws_c (b := b) (f := st 4) (k := k) hH hD hO hN4 (by omega)
        refine wp_iload G 4 dX10_worst_26 rfl ?_
        refine wp_aload_n G 0 dX10_worst_28 rfl ?_
        refine wp_get G 7 cOk9 fX10_96 dX10_worst_29 h64 rfl ?_
        refine wp_icmp_ge G dX10_worst_32 (by omega) (by omega) (fun kq3 => ?_) (fun kq3 => ?_)
        · skip
          refine wp_iload_n G 2 dX10_worst_82 rfl ?_
          refine wp_if_ne G dX10_worst_83 (by omega) (fun kq4 => ?_) (fun kq4 => ?_)
          · skip
            refine wp_iload_n G 3 dX10_worst_90 rfl ?_
            refine wp_if_ge G dX10_worst_91 (by omega) (fun kq5 => ?_) (fun kq5 => ?_)
            · skip
              have ek : k = n := (by omega)
              subst k
              refine wp_aload_n G 0 dX10_worst_98 rfl ?_
              refine wp_iload_n G 3 dX10_worst_99 rfl ?_
              rw [show ((wsF o (cnd q (-1) b) (fun j => lsQ hn hs kd dm q j (st 4)) n).1 : Int) = (((wsF o (cnd q (-1) b) (fun j => lsQ hn hs kd dm q j (st 4)) n).1.toNat : Nat) : Int) by omega]
              refine wp_cVE (b := 64) (ci := 9) (as := [zI (((((wsF o (cnd q (-1) b) (fun j => lsQ hn hs kd dm q j (st 4)) n).1.toNat : Nat) : Int).toNat : Nat) : Int)]) (rest := []) (hp2 := (nx, h, [])) G mX10_lossOf lX10_302 iX10_lossOf eX10_lossOf ⟨_, rfl, rfl⟩ dX10_worst_100 h64 rfl rfl (Nat.le_of_ble_eq_true rfl) (rmx_ok hR (by decide) (by decide) (by decide) (by decide)) (t_X10_lossOf (nx := nx) (j := ((((wsF o (cnd q (-1) b) (fun j => lsQ hn hs kd dm q j (st 4)) n).1.toNat : Nat) : Int).toNat)) hQ hO hN hG hH hD hL (by omega)) rfl ?_
              exact wp_ireturn G hr dX10_worst_103 ⟨by first | (simp only [Int.toNat_natCast]; rw [ansX, if_neg (by omega), if_neg (by omega), if_pos (by omega)]; done) | (rw [show n = n by omega]; first | (rw [ansX, if_neg (by omega), if_pos (by omega)]; done) | (rw [ansX, if_neg (by omega), if_neg (by omega), if_neg (by omega)]; done)) | (have ek : n = n := (by omega); subst ek; rw [ansX, if_neg (by omega), if_neg (by omega), if_neg (by omega)]), rfl, by rfl⟩
            · skip
              refine wp_iconst G dX10_worst_94 ?_
              refine wp_goto G dX10_worst_95 ?_
              exact wp_ireturn G hr dX10_worst_103 ⟨by first | (simp only [Int.toNat_natCast]; rw [ansX, if_neg (by omega), if_neg (by omega), if_pos (by omega)]; done) | (rw [show k = n by omega]; first | (rw [ansX, if_neg (by omega), if_pos (by omega)]; done) | (rw [ansX, if_neg (by omega), if_neg (by omega), if_neg (by omega)]; done)) | (have ek : k = n := (by omega); subst ek; rw [ansX, if_neg (by omega), if_neg (by omega), if_neg (by omega)]), rfl, by rfl⟩
          · skip
            refine wp_iload_n G 3 dX10_worst_86 rfl ?_
            refine wp_goto G dX10_worst_87 ?_
            exact wp_ireturn G hr dX10_worst_103 ⟨by first | (simp only [Int.toNat_natCast]; rw [ansX, if_neg (by omega), if_neg (by omega), if_pos (by omega)]; done) | (rw [show k = n by omega]; first | (rw [ansX, if_neg (by omega), if_pos (by omega)]; done) | (rw [ansX, if_neg (by omega), if_neg (by omega), if_neg (by omega)]; done)) | (have ek : k = n := (by omega); subst ek; rw [ansX, if_neg (by omega), if_neg (by omega), if_neg (by omega)]), rfl, by rfl⟩
        · skip
          refine wp_aload_n G 0 dX10_worst_35 rfl ?_
          refine wp_get G 9 cOk9 fX10_35 dX10_worst_36 h64 rfl ?_
          refine wp_iload G 4 dX10_worst_39 rfl ?_
          refine wp_iald (j := k) G dX10_worst_41 h73 rfl (by omega) (by decide) ?_
          have rrq1 := hO.o k (by omega)
          refine wp_istore (lv' := [(5, zI ((o k : Nat) : Int)), (0, zR 64), (1, zI b), (2, zI w), (3, zI ((wsF o (cnd q (-1) b) (fun j => lsQ hn hs kd dm q j (st 4)) k).1)), (4, zI ((k : Nat) : Int))]) G dX10_worst_42 (by decide) rfl ?_
          have hok := hO.o k (by omega)
          have hlk := lsQ_b (j := o k) hH hD hO hok hN4
          refine wp_aload_n G 1 dX10_worst_44 rfl ?_
          refine wp_iload G 0 dX10_worst_45 rfl ?_
          refine wp_iconst G dX10_worst_47 ?_
          refine wp_iload_n G 2 dX10_worst_48 rfl ?_
          refine wp_cVE (b := 64) (ci := 9) (as := [zI ((o k : Nat) : Int), zI (-1), zI b]) (rest := []) (hp2 := (nx, h, [])) G mX10_isCounted lX10_167 iX10_isCounted eX10_isCounted ⟨_, rfl, rfl⟩ dX10_worst_49 h64 rfl rfl (Nat.le_of_ble_eq_true rfl) (rmx_ok hR (by decide) (by decide) (by decide) (by decide)) (t_X10_isCounted (nx := nx) (j := (o k)) (a := (-1)) (b := b) hQ hO hN hok (by omega) ri_b) rfl ?_
          refine wp_ifeq_bt G dX10_worst_52 (fun kq6 => ?_) (fun kq6 => ?_)
          · skip
            refine wp_iinc (lv' := [(4, zI (((k : Nat) : Int) + 1)), (5, zI ((o k : Nat) : Int)), (0, zR 64), (1, zI b), (2, zI w), (3, zI ((wsF o (cnd q (-1) b) (fun j => lsQ hn hs kd dm q j (st 4)) k).1))]) G 5 dX10_worst_76 rfl (by decide) rfl ?_
            refine wp_goto G dX10_worst_79 ?_
            refine wp_lv [2, 3, 4, 5, 0] rfl ?_
            exact ih26 (k + 1) ((wsF o (cnd q (-1) b) (fun j => lsQ hn hs kd dm q j (st 4)) k).1) (((k : Nat) : Int) + 1) (by omega) (by first | (rw [wsF_y (by assumption) (by show _ < lsQ hn hs kd dm q (o k) (st 4); omega)]; done) | (rw [wsF_n (fun z => by have z1 := z.1; have z2 : _ < lsQ hn hs kd dm q (o k) (st 4) := z.2; first | exact absurd z1 (by assumption) | omega)]; first | done | omega)) (by omega) (by omega)
          · skip
            refine wp_iload_n G 4 dX10_worst_55 rfl ?_
            refine wp_if_lt G dX10_worst_56 (by omega) (fun kq7 => ?_) (fun kq7 => ?_)
            · skip
              refine wp_iload G 0 dX10_worst_73 rfl ?_
              refine wp_istore_n (lv' := [(3, zI ((o k : Nat) : Int)), (5, zI ((o k : Nat) : Int)), (0, zR 64), (1, zI b), (2, zI w), (4, zI ((k : Nat) : Int))]) G dX10_worst_75 (by decide) rfl ?_
              refine wp_iinc (lv' := [(4, zI (((k : Nat) : Int) + 1)), (3, zI ((o k : Nat) : Int)), (5, zI ((o k : Nat) : Int)), (0, zR 64), (1, zI b), (2, zI w)]) G 5 dX10_worst_76 rfl (by decide) rfl ?_
              refine wp_goto G dX10_worst_79 ?_
              refine wp_lv [3, 4, 5, 1, 0] rfl ?_
              exact ih26 (k + 1) ((o k : Nat) : Int) (((k : Nat) : Int) + 1) (by omega) (by first | (rw [wsF_y (by assumption) (by show _ < lsQ hn hs kd dm q (o k) (st 4); omega)]; done) | (rw [wsF_n (fun z => by have z1 := z.1; have z2 : _ < lsQ hn hs kd dm q (o k) (st 4) := z.2; first | exact absurd z1 (by assumption) | omega)]; first | done | omega)) (by omega) (by omega)
            · skip
              refine wp_aload_n G 1 dX10_worst_59 rfl ?_
              refine wp_iload G 0 dX10_worst_60 rfl ?_
              refine wp_cVE (b := 64) (ci := 9) (as := [zI ((o k : Nat) : Int)]) (rest := []) (hp2 := (nx, h, [])) G mX10_lossOf lX10_302 iX10_lossOf eX10_lossOf ⟨_, rfl, rfl⟩ dX10_worst_62 h64 rfl rfl (Nat.le_of_ble_eq_true rfl) (rmx_ok hR (by decide) (by decide) (by decide) (by decide)) (t_X10_lossOf (nx := nx) (j := (o k)) hQ hO hN hG hH hD hL hok) rfl ?_
              refine wp_aload_n G 1 dX10_worst_65 rfl ?_
              rw [show ((wsF o (cnd q (-1) b) (fun j => lsQ hn hs kd dm q j (st 4)) k).1 : Int) = (((wsF o (cnd q (-1) b) (fun j => lsQ hn hs kd dm q j (st 4)) k).1.toNat : Nat) : Int) by omega]
              have hlb := lsQ_b (j := (wsF o (cnd q (-1) b) (fun j => lsQ hn hs kd dm q j (st 4)) k).1.toNat) hH hD hO (by omega) hN4
              refine wp_iload_n G 4 dX10_worst_66 rfl ?_
              refine wp_cVE (b := 64) (ci := 9) (as := [zI (((wsF o (cnd q (-1) b) (fun j => lsQ hn hs kd dm q j (st 4)) k).1.toNat : Nat) : Int)]) (rest := [zI (lsQ hn hs kd dm q (o k) (st 4))]) (hp2 := (nx, h, [])) G mX10_lossOf lX10_302 iX10_lossOf eX10_lossOf ⟨_, rfl, rfl⟩ dX10_worst_67 h64 rfl rfl (Nat.le_of_ble_eq_true rfl) (rmx_ok hR (by decide) (by decide) (by decide) (by decide)) (t_X10_lossOf (nx := nx) (j := ((wsF o (cnd q (-1) b) (fun j => lsQ hn hs kd dm q j (st 4)) k).1.toNat)) hQ hO hN hG hH hD hL (by omega)) rfl ?_
              refine wp_icmp_le G dX10_worst_70 (by omega) (by omega) (fun kq8 => ?_) (fun kq8 => ?_)
              · skip
                refine wp_iinc (lv' := [(4, zI (((k : Nat) : Int) + 1)), (5, zI ((o k : Nat) : Int)), (0, zR 64), (1, zI b), (2, zI w), (3, zI (((wsF o (cnd q (-1) b) (fun j => lsQ hn hs kd dm q j (st 4)) k).1.toNat : Nat) : Int))]) G 5 dX10_worst_76 rfl (by decide) rfl ?_
                refine wp_goto G dX10_worst_79 ?_
                refine wp_lv [2, 3, 4, 5, 0] rfl ?_
                exact ih26 (k + 1) (((wsF o (cnd q (-1) b) (fun j => lsQ hn hs kd dm q j (st 4)) k).1.toNat : Nat) : Int) (((k : Nat) : Int) + 1) (by omega) (by first | (rw [wsF_y (by assumption) (by show _ < lsQ hn hs kd dm q (o k) (st 4); omega)]; done) | (rw [wsF_n (fun z => by have z1 := z.1; have z2 : _ < lsQ hn hs kd dm q (o k) (st 4) := z.2; first | exact absurd z1 (by assumption) | omega)]; first | done | omega)) (by omega) (by omega)
              · skip
                refine wp_iload G 0 dX10_worst_73 rfl ?_
                refine wp_istore_n (lv' := [(3, zI ((o k : Nat) : Int)), (5, zI ((o k : Nat) : Int)), (0, zR 64), (1, zI b), (2, zI w), (4, zI ((k : Nat) : Int))]) G dX10_worst_75 (by decide) rfl ?_
                refine wp_iinc (lv' := [(4, zI (((k : Nat) : Int) + 1)), (3, zI ((o k : Nat) : Int)), (5, zI ((o k : Nat) : Int)), (0, zR 64), (1, zI b), (2, zI w)]) G 5 dX10_worst_76 rfl (by decide) rfl ?_
                refine wp_goto G dX10_worst_79 ?_
                refine wp_lv [3, 4, 5, 1, 0] rfl ?_
                exact ih26 (k + 1) ((o k : Nat) : Int) (((k : Nat) : Int) + 1) (by omega) (by first | (rw [wsF_y (by assumption) (by show _ < lsQ hn hs kd dm q (o k) (st 4); omega)]; done) | (rw [wsF_n (fun z => by have z1 := z.1; have z2 : _ < lsQ hn hs kd dm q (o k) (st 4) := z.2; first | exact absurd z1 (by assumption) | omega)]; first | done | omega)) (by omega) (by omega)
    · skip
      refine wp_bipush G dX10_worst_17 (by decide) ?_
      exact wp_ireturn G hr dX10_worst_19 ⟨by rw [ansX, if_pos (by omega)], rfl, by rfl⟩

set_option maxRecDepth 100000 in
set_option maxHeartbeats 4000000 in
theorem t_X9_curve {nx : Nat} {h : Nat → Option PC} {n : Nat} {q : Nat → Nat → Int} {o : Nat → Nat} {hn : Nat} {hs : Nat → Nat → Int} {kd : Nat → Nat} {dm : Nat → Nat → Int} {ln : Nat} {lw : Nat → Nat → Int} {gn : Nat → Int} {fc : Nat} {st : Nat → Int} {l : Int} (hQ : isQ h n q o) (hO : okQ n q o) (hG : isG h hn hs kd dm ln lw gn) (hH : okH hn hs kd) (hD : okD dm) (hL : okL ln lw) (h0 : h 0 = some (oO 8 [zR 1, zR 2, zR 11, zR 34, zR 36, zR 42, zR 44, zI ((fc : Nat) : Int), zR 45, zR 48])) (h1 : h 1 = some (oA 0 5 st)) (hN : okN st) (ri_l : r32 l) : Cx 6 (0, 0) yX9_curve cX9_curve 2 (some .int) [zR 0, zI l] nx h (Rt (zI (ansK hn hs kd dm lw ln st l)) nx []) := by
  refine cx_of pnX9_curve (Nat.le_of_ble_eq_true rfl) ?_
  intro K G hr hnm hR
  obtain ⟨h2, h3, h4, h5, h6, h7, h8, h9, h10⟩ := id hQ
  have hn40 := hO.1
  obtain ⟨h48, h49, h50, h51, h52, h53, h54, h55, h56, h57, h58, h59, h60, h61, h62, h63⟩ := id hG
  have hn12 := hH.1
  have ln12 := hL.1
  obtain ⟨hN0, hN1, hN2, hN3, hN4⟩ := id hN
  show Wp K 2 (Mx K h (Rt (zI (ansK hn hs kd dm lw ln st l)) nx []) (0, 0)) (0, 0) 0 [(0, zR 0), (1, zI l)] [] (nx, h, [])
  refine wp_iload_n G 1 dX9_curve_0 rfl ?_
  refine wp_iconst G dX9_curve_1 ?_
  refine wp_ldc (z := 1000000) G kX9_242 dX9_curve_2 ?_
  refine wp_cSE (as := [zI l, zI 0, zI 1000000]) (rest := []) (hp2 := (nx, h, [])) G mX9_within lX9_127 sX9_within dX9_curve_4 rfl rfl (Nat.le_of_ble_eq_true rfl) (rmx_ok hR (by decide) (by decide) (by decide) (by decide)) (t_X9_within (nx := nx) (v := l) (lo := 0) (hi := 1000000) (by omega) (by omega) (by omega)) rfl ?_
  refine wp_ifne_bt G dX9_curve_7 (fun kq1 => ?_) (fun kq1 => ?_)
  · skip
    refine wp_aload_n G 0 dX9_curve_13 rfl ?_
    refine wp_get G 9 cOk8 fX9_68 dX9_curve_14 h0 rfl ?_
    refine wp_iload_n G 1 dX9_curve_17 rfl ?_
    refine wp_aload_n G 0 dX9_curve_18 rfl ?_
    refine wp_get G 0 cOk8 fX9_7 dX9_curve_19 h0 rfl ?_
    refine wp_iconst G dX9_curve_22 ?_
    refine wp_iald (j := 4) G dX9_curve_23 h1 rfl (by decide) (by decide) ?_
    have rrq1 := hN.r 4 (by decide)
    refine wp_cVE (b := 48) (ci := 2) (as := [zI l, zI (st 4)]) (rest := []) (hp2 := (nx, h, [])) G mX2_howOftenAbove lX9_304 iX2_howOftenAbove eX2_howOftenAbove ⟨_, rfl, rfl⟩ dX9_curve_24 h48 rfl rfl (Nat.le_of_ble_eq_true rfl) (rmx_ok hR (by decide) (by decide) (by decide) (by decide)) (t_X2_howOftenAbove (nx := nx) (l := l) (f := (st 4)) hG hH hD hL ri_l hN4) rfl ?_
    exact wp_ireturn G hr dX9_curve_27 ⟨by first | (rw [ansK, if_pos (by omega)]; done) | (rw [ansK, if_neg (by omega)]), rfl, by rfl⟩
  · skip
    refine wp_bipush G dX9_curve_10 (by decide) ?_
    exact wp_ireturn G hr dX9_curve_12 ⟨by first | (rw [ansK, if_pos (by omega)]; done) | (rw [ansK, if_neg (by omega)]), rfl, by rfl⟩

set_option maxRecDepth 100000 in
set_option maxHeartbeats 4000000 in
theorem t_X10_curve {nx : Nat} {h : Nat → Option PC} {n : Nat} {q : Nat → Nat → Int} {o : Nat → Nat} {fc : Nat} {hn : Nat} {ln : Nat} {ma : Int} {mb : Int} {st : Nat → Int} {hs : Nat → Nat → Int} {kd : Nat → Nat} {dm : Nat → Nat → Int} {lw : Nat → Nat → Int} {l : Int} (hQ : isM h n q o fc hn ln ma mb st) (hO : okQ n q o) (hN : okN st) (hG : isMg h hs kd dm lw) (hH : okH hn hs kd) (hD : okD dm) (hL : okL ln lw) (ri_l : r32 l) : Cx 4 (0, 0) yX10_curve cX10_curve 4 (some .int) [zR 64, zI l] nx h (Rt (zI (ansK hn hs kd dm lw ln st l)) nx []) := by
  refine cx_of pnX10_curve (Nat.le_of_ble_eq_true rfl) ?_
  intro K G hr hnm hR
  obtain ⟨h64, h65, h66, h67, h68, h69, h70, h71, h72, h73⟩ := id hQ
  have hn40 := hO.1
  obtain ⟨hN0, hN1, hN2, hN3, hN4⟩ := id hN
  obtain ⟨h83, h84, h85, h86, h87, h88, h89, h90, h91, h92⟩ := id hG
  have hn12 := hH.1
  have ln12 := hL.1
  show Wp K 4 (Mx K h (Rt (zI (ansK hn hs kd dm lw ln st l)) nx []) (0, 0)) (0, 0) 0 [(0, zR 64), (1, zI l)] [] (nx, h, [])
  refine wp_iload_n G 1 dX10_curve_0 rfl ?_
  refine wp_i2l G (by omega) dX10_curve_1 ?_
  refine wp_lconst (z := 0) G dX10_curve_2 (by decide) ?_
  refine wp_ldc2 (z := 1000000) G kX10_240 dX10_curve_3 ?_
  refine wp_cSE (as := [zJ l, zJ 0, zJ 1000000]) (rest := []) (hp2 := (nx, h, [])) G mX10_in lX10_100 sX10_in dX10_curve_6 rfl rfl (Nat.le_of_ble_eq_true rfl) (rmx_ok hR (by decide) (by decide) (by decide) (by decide)) (t_X10_in (nx := nx) (v := l) (lo := 0) (hi := 1000000) (by omega) (by omega) (by omega)) rfl ?_
  refine wp_ifne_bt G dX10_curve_9 (fun kq1 => ?_) (fun kq1 => ?_)
  · skip
    refine wp_iconst G dX10_curve_15 ?_
    refine wp_istore_n (lv' := [(2, zI 0), (0, zR 64), (1, zI l)]) G dX10_curve_16 (by decide) rfl ?_
    refine wp_iconst G dX10_curve_17 ?_
    refine wp_istore_n (lv' := [(3, zI 0), (2, zI 0), (0, zR 64), (1, zI l)]) G dX10_curve_18 (by decide) rfl ?_
    refine wp_lv [2, 3, 1, 0] rfl ?_
    suffices lp19 : ∀ (fu : Nat) (i : Nat) (v2 : Int) (v3 : Int), ln - i < fu → (v2 = sumZ (fun k => ifZ (l < lsL hn hs kd dm lw k 0 (st 4)) (lw 3 k) 0) i) → (v3 = ((i : Nat) : Int)) → (i ≤ ln) → Wp K 4 (Mx K h (Rt (zI (ansK hn hs kd dm lw ln st l)) nx []) (0, 0)) (0, 0) 19 [(0, zR 64), (1, zI l), (2, zI v2), (3, zI v3)] [] (nx, h, []) from lp19 _ 0 0 0 (Nat.lt_succ_self _) (by rfl) (by omega) (by omega)
    intro fu
    induction fu with
    | zero => intro i v2 v3 hm; exact absurd hm (Nat.not_lt_zero _)
    | succ fu ih19 =>
      intro i v2 v3 hm19 e2 e3 hi0
      subst e2
      subst e3
      have hlb := fun z => lsL_b (k := i) (s := 0) hH hD hL z hN4
      refine wp_iload_n G 3 dX10_curve_19 rfl ?_
      refine wp_aload_n G 0 dX10_curve_20 rfl ?_
      refine wp_get G 33 cOk9 fX10_305 dX10_curve_21 h64 rfl ?_
      refine wp_icmp_ge G dX10_curve_24 (by omega) (by omega) (fun kq2 => ?_) (fun kq2 => ?_)
      · skip
        refine wp_iload_n G 2 dX10_curve_56 rfl ?_
        exact wp_ireturn G hr dX10_curve_57 ⟨by rw [ansK, if_neg (by omega), show i = ln by omega], rfl, by rfl⟩
      · skip
        have hlb2 := hlb (by omega)
        refine wp_iload_n G 2 dX10_curve_27 rfl ?_
        refine wp_aload_n G 0 dX10_curve_28 rfl ?_
        refine wp_iload_n G 3 dX10_curve_29 rfl ?_
        refine wp_iconst G dX10_curve_30 ?_
        refine wp_cVE (b := 64) (ci := 9) (as := [zI ((i : Nat) : Int), zI 0]) (rest := [zI (sumZ (fun k => ifZ (l < lsL hn hs kd dm lw k 0 (st 4)) (lw 3 k) 0) i)]) (hp2 := (nx, h, [])) G mX10_lawLoss lX10_308 iX10_lawLoss eX10_lawLoss ⟨_, rfl, rfl⟩ dX10_curve_31 h64 rfl rfl (Nat.le_of_ble_eq_true rfl) (rmx_ok hR (by decide) (by decide) (by decide) (by decide)) (t_X10_lawLoss (nx := nx) (k := i) (s := 0) hQ hO hN hG hH hD hL (by omega) (by omega)) rfl ?_
        refine wp_iload_n G 1 dX10_curve_34 rfl ?_
        refine wp_icmp_le G dX10_curve_35 (by omega) (by omega) (fun kq3 => ?_) (fun kq3 => ?_)
        · skip
          refine wp_iconst G dX10_curve_47 ?_
          refine wp_iadd G dX10_curve_48 ?_
          refine wp_istore_n (lv' := [(2, zI (sumZ (fun k => ifZ (l < lsL hn hs kd dm lw k 0 (st 4)) (lw 3 k) 0) i + 0)), (0, zR 64), (1, zI l), (3, zI ((i : Nat) : Int))]) G dX10_curve_49 (by decide) rfl ?_
          refine wp_iinc (lv' := [(3, zI (((i : Nat) : Int) + 1)), (2, zI (sumZ (fun k => ifZ (l < lsL hn hs kd dm lw k 0 (st 4)) (lw 3 k) 0) i + 0)), (0, zR 64), (1, zI l)]) G 3 dX10_curve_50 rfl (by decide) rfl ?_
          refine wp_goto G dX10_curve_53 ?_
          refine wp_lv [2, 3, 1, 0] rfl ?_
          exact ih19 (i + 1) (sumZ (fun k => ifZ (l < lsL hn hs kd dm lw k 0 (st 4)) (lw 3 k) 0) i + 0) (((i : Nat) : Int) + 1) (by omega) (by rw [sumZ]; first | (rw [ifZ_y (by omega)]; done) | (rw [ifZ_n (by omega)]; done)) (by omega) (by omega)
        · skip
          refine wp_aload_n G 0 dX10_curve_38 rfl ?_
          refine wp_get G 32 cOk9 fX10_93 dX10_curve_39 h64 rfl ?_
          refine wp_iload_n G 3 dX10_curve_42 rfl ?_
          refine wp_iald (j := i) G dX10_curve_43 h92 rfl (by omega) (by decide) ?_
          have rrq1 := hL.2.2.2.2 i (by omega)
          refine wp_goto G dX10_curve_44 ?_
          refine wp_iadd G dX10_curve_48 ?_
          refine wp_istore_n (lv' := [(2, zI (sumZ (fun k => ifZ (l < lsL hn hs kd dm lw k 0 (st 4)) (lw 3 k) 0) i + ((lw 3) i))), (0, zR 64), (1, zI l), (3, zI ((i : Nat) : Int))]) G dX10_curve_49 (by decide) rfl ?_
          refine wp_iinc (lv' := [(3, zI (((i : Nat) : Int) + 1)), (2, zI (sumZ (fun k => ifZ (l < lsL hn hs kd dm lw k 0 (st 4)) (lw 3 k) 0) i + ((lw 3) i))), (0, zR 64), (1, zI l)]) G 3 dX10_curve_50 rfl (by decide) rfl ?_
          refine wp_goto G dX10_curve_53 ?_
          refine wp_lv [2, 3, 1, 0] rfl ?_
          exact ih19 (i + 1) (sumZ (fun k => ifZ (l < lsL hn hs kd dm lw k 0 (st 4)) (lw 3 k) 0) i + ((lw 3) i)) (((i : Nat) : Int) + 1) (by omega) (by rw [sumZ]; first | (rw [ifZ_y (by omega)]; done) | (rw [ifZ_n (by omega)]; done)) (by omega) (by omega)
  · skip
    refine wp_bipush G dX10_curve_12 (by decide) ?_
    exact wp_ireturn G hr dX10_curve_14 ⟨by rw [ansK, if_pos (by omega)], rfl, by rfl⟩

set_option maxRecDepth 100000 in
set_option maxHeartbeats 4000000 in
theorem t_X9_mean {nx : Nat} {h : Nat → Option PC} {n : Nat} {q : Nat → Nat → Int} {o : Nat → Nat} {hn : Nat} {hs : Nat → Nat → Int} {kd : Nat → Nat} {dm : Nat → Nat → Int} {ln : Nat} {lw : Nat → Nat → Int} {gn : Nat → Int} {fc : Nat} {st : Nat → Int} {v : Int} (hQ : isQ h n q o) (hO : okQ n q o) (hG : isG h hn hs kd dm ln lw gn) (hH : okH hn hs kd) (hD : okD dm) (hL : okL ln lw) (h0 : h 0 = some (oO 8 [zR 1, zR 2, zR 11, zR 34, zR 36, zR 42, zR 44, zI ((fc : Nat) : Int), zR 45, zR 48])) (h1 : h 1 = some (oA 0 5 st)) (hN : okN st) (ri_v : r32 v) : Cx 6 (0, 0) yX9_mean cX9_mean 2 (some .long) [zR 0, zI v] nx h (Rt (zJ (ansE hn hs kd dm lw ln st v)) nx []) := by
  refine cx_of pnX9_mean (Nat.le_of_ble_eq_true rfl) ?_
  intro K G hr hnm hR
  obtain ⟨h2, h3, h4, h5, h6, h7, h8, h9, h10⟩ := id hQ
  have hn40 := hO.1
  obtain ⟨h48, h49, h50, h51, h52, h53, h54, h55, h56, h57, h58, h59, h60, h61, h62, h63⟩ := id hG
  have hn12 := hH.1
  have ln12 := hL.1
  obtain ⟨hN0, hN1, hN2, hN3, hN4⟩ := id hN
  have h2p : 2 ^ hn ≤ 2 ^ 12 := Nat.pow_le_pow_right (by decide) hn12
  have h2q : 0 < 2 ^ hn := Nat.two_pow_pos hn
  show Wp K 2 (Mx K h (Rt (zJ (ansE hn hs kd dm lw ln st v)) nx []) (0, 0)) (0, 0) 0 [(0, zR 0), (1, zI v)] [] (nx, h, [])
  refine wp_iload_n G 1 dX9_mean_0 rfl ?_
  refine wp_iconst G dX9_mean_1 ?_
  refine wp_iconst G dX9_mean_2 ?_
  refine wp_aload_n G 0 dX9_mean_3 rfl ?_
  refine wp_get G 9 cOk8 fX9_68 dX9_mean_4 h0 rfl ?_
  refine wp_get G 0 cOk2 fX9_280 dX9_mean_7 h48 rfl ?_
  refine wp_ishl1 (k := hn) G rfl (by omega) dX9_mean_10 ?_
  refine wp_iconst G dX9_mean_11 ?_
  refine wp_isub G dX9_mean_12 ?_
  refine wp_cSE (as := [zI v, zI 0, zI (((2 ^ hn : Nat) : Int) - 1)]) (rest := []) (hp2 := (nx, h, [])) G mX9_within lX9_127 sX9_within dX9_mean_13 rfl rfl (Nat.le_of_ble_eq_true rfl) (rmx_ok hR (by decide) (by decide) (by decide) (by decide)) (t_X9_within (nx := nx) (v := v) (lo := 0) (hi := (((2 ^ hn : Nat) : Int) - 1)) ri_v (by omega) (by omega)) rfl ?_
  refine wp_ifne_bt G dX9_mean_16 (fun kq1 => ?_) (fun kq1 => ?_)
  · skip
    obtain ⟨vv, e_vv⟩ := Int.eq_ofNat_of_zero_le (show 0 ≤ v from (by omega))
    subst e_vv
    refine wp_aload_n G 0 dX9_mean_23 rfl ?_
    refine wp_get G 9 cOk8 fX9_68 dX9_mean_24 h0 rfl ?_
    refine wp_iload_n G 1 dX9_mean_27 rfl ?_
    refine wp_aload_n G 0 dX9_mean_28 rfl ?_
    refine wp_get G 0 cOk8 fX9_7 dX9_mean_29 h0 rfl ?_
    refine wp_iconst G dX9_mean_32 ?_
    refine wp_iald (j := 4) G dX9_mean_33 h1 rfl (by decide) (by decide) ?_
    have rrq1 := hN.r 4 (by decide)
    refine wp_cVE (b := 48) (ci := 2) (as := [zI ((vv : Nat) : Int), zI (st 4)]) (rest := []) (hp2 := (nx, h, [])) G mX2_meanLoss lX9_308 iX2_meanLoss eX2_meanLoss ⟨_, rfl, rfl⟩ dX9_mean_34 h48 rfl rfl (Nat.le_of_ble_eq_true rfl) (rmx_ok hR (by decide) (by decide) (by decide) (by decide)) (t_X2_meanLoss (nx := nx) (s := vv) (f := (st 4)) hG hH hD hL (by omega) hN4) rfl ?_
    exact wp_lreturn G hr dX9_mean_37 ⟨by first | (rw [ansE, if_neg (by omega)]; done) | (rw [ansE, if_pos (by omega)]; simp only [Int.toNat_natCast]), rfl, by rfl⟩
  · skip
    refine wp_ldc2 (z := -1000000000000000002) G kX9_169 dX9_mean_19 ?_
    exact wp_lreturn G hr dX9_mean_22 ⟨by first | (rw [ansE, if_neg (by omega)]; done) | (rw [ansE, if_pos (by omega)]; simp only [Int.toNat_natCast]), rfl, by rfl⟩

set_option maxRecDepth 100000 in
set_option maxHeartbeats 4000000 in
theorem t_X10_mean {nx : Nat} {h : Nat → Option PC} {n : Nat} {q : Nat → Nat → Int} {o : Nat → Nat} {fc : Nat} {hn : Nat} {ln : Nat} {ma : Int} {mb : Int} {st : Nat → Int} {hs : Nat → Nat → Int} {kd : Nat → Nat} {dm : Nat → Nat → Int} {lw : Nat → Nat → Int} {v : Int} (hQ : isM h n q o fc hn ln ma mb st) (hO : okQ n q o) (hN : okN st) (hG : isMg h hs kd dm lw) (hH : okH hn hs kd) (hD : okD dm) (hL : okL ln lw) (ri_v : r32 v) : Cx 5 (0, 0) yX10_mean cX10_mean 2 (some .long) [zR 64, zI v] nx h (Rt (zJ (ansE hn hs kd dm lw ln st v)) nx []) := by
  refine cx_of pnX10_mean (Nat.le_of_ble_eq_true rfl) ?_
  intro K G hr hnm hR
  obtain ⟨h64, h65, h66, h67, h68, h69, h70, h71, h72, h73⟩ := id hQ
  have hn40 := hO.1
  obtain ⟨hN0, hN1, hN2, hN3, hN4⟩ := id hN
  obtain ⟨h83, h84, h85, h86, h87, h88, h89, h90, h91, h92⟩ := id hG
  have hn12 := hH.1
  have ln12 := hL.1
  have h2p : 2 ^ hn ≤ 2 ^ 12 := Nat.pow_le_pow_right (by decide) hn12
  have h2q : 0 < 2 ^ hn := Nat.two_pow_pos hn
  show Wp K 2 (Mx K h (Rt (zJ (ansE hn hs kd dm lw ln st v)) nx []) (0, 0)) (0, 0) 0 [(0, zR 64), (1, zI v)] [] (nx, h, [])
  refine wp_iload_n G 1 dX10_mean_0 rfl ?_
  refine wp_i2l G (by omega) dX10_mean_1 ?_
  refine wp_lconst (z := 0) G dX10_mean_2 (by decide) ?_
  refine wp_iconst G dX10_mean_3 ?_
  refine wp_aload_n G 0 dX10_mean_4 rfl ?_
  refine wp_get G 27 cOk9 fX10_296 dX10_mean_5 h64 rfl ?_
  refine wp_ishl1 (k := hn) G rfl (by omega) dX10_mean_8 ?_
  refine wp_iconst G dX10_mean_9 ?_
  refine wp_isub G dX10_mean_10 ?_
  refine wp_i2l G (by omega) dX10_mean_11 ?_
  refine wp_cSE (as := [zJ v, zJ 0, zJ (((2 ^ hn : Nat) : Int) - 1)]) (rest := []) (hp2 := (nx, h, [])) G mX10_in lX10_100 sX10_in dX10_mean_12 rfl rfl (Nat.le_of_ble_eq_true rfl) (rmx_ok hR (by decide) (by decide) (by decide) (by decide)) (t_X10_in (nx := nx) (v := v) (lo := 0) (hi := (((2 ^ hn : Nat) : Int) - 1)) (by omega) (by omega) (by omega)) rfl ?_
  refine wp_ifeq_bt G dX10_mean_15 (fun kq1 => ?_) (fun kq1 => ?_)
  · skip
    refine wp_ldc2 (z := -1000000000000000002) G kX10_184 dX10_mean_26 ?_
    exact wp_lreturn G hr dX10_mean_29 ⟨by first | (rw [ansE, if_neg (by omega)]; done) | (rw [ansE, if_pos (by omega)]; simp only [Int.toNat_natCast]), rfl, by rfl⟩
  · skip
    obtain ⟨vv, e_vv⟩ := Int.eq_ofNat_of_zero_le (show 0 ≤ v from (by omega))
    subst e_vv
    refine wp_aload_n G 0 dX10_mean_18 rfl ?_
    refine wp_iload_n G 1 dX10_mean_19 rfl ?_
    refine wp_cVE (b := 64) (ci := 9) (as := [zI ((vv : Nat) : Int)]) (rest := []) (hp2 := (nx, h, [])) G mX10_meanOf lX10_311 iX10_meanOf eX10_meanOf ⟨_, rfl, rfl⟩ dX10_mean_20 h64 rfl rfl (Nat.le_of_ble_eq_true rfl) (rmx_ok hR (by decide) (by decide) (by decide) (by decide)) (t_X10_meanOf (nx := nx) (s := vv) hQ hO hN hG hH hD hL (by omega)) rfl ?_
    refine wp_goto G dX10_mean_23 ?_
    exact wp_lreturn G hr dX10_mean_29 ⟨by first | (rw [ansE, if_neg (by omega)]; done) | (rw [ansE, if_pos (by omega)]; simp only [Int.toNat_natCast]), rfl, by rfl⟩

set_option maxRecDepth 100000 in
set_option maxHeartbeats 4000000 in
theorem t_X9_told {nx : Nat} {h : Nat → Option PC} {n : Nat} {q : Nat → Nat → Int} {o : Nat → Nat} {hn : Nat} {hs : Nat → Nat → Int} {kd : Nat → Nat} {dm : Nat → Nat → Int} {ln : Nat} {lw : Nat → Nat → Int} {gn : Nat → Int} {sc : Nat} {sg : Nat → Int} {fc : Nat} {st : Nat → Int} {v : Int} (hQ : isQ h n q o) (hO : okQ n q o) (hG : isG h hn hs kd dm ln lw gn) (hH : okH hn hs kd) (hD : okD dm) (hL : okL ln lw) (h0 : h 0 = some (oO 8 [zR 1, zR 2, zR 11, zR 34, zR 36, zR 42, zR 44, zI ((fc : Nat) : Int), zR 45, zR 48])) (h1 : h 1 = some (oA 0 5 st)) (hN : okN st) (h42 : h 42 = some (oO 7 [zI ((sc : Nat) : Int), zR 43])) (h43 : h 43 = some (oA 0 48 sg)) (hsc : sc ≤ 48) (hsg : ∀ i, i < sc → 33 ≤ sg i ∧ sg i ≤ 126) (ri_v : r32 v) : Cx 1 (0, 0) yX9_told cX9_told 2 (some .int) [zR 0, zI v] nx h (Rt (zI (ansT n q st (sc) fc hn ln v)) nx []) := by
  refine cx_of pnX9_told (Nat.le_of_ble_eq_true rfl) ?_
  intro K G hr hnm hR
  obtain ⟨h2, h3, h4, h5, h6, h7, h8, h9, h10⟩ := id hQ
  have hn40 := hO.1
  obtain ⟨h48, h49, h50, h51, h52, h53, h54, h55, h56, h57, h58, h59, h60, h61, h62, h63⟩ := id hG
  have hn12 := hH.1
  have ln12 := hL.1
  obtain ⟨hN0, hN1, hN2, hN3, hN4⟩ := id hN
  show Wp K 2 (Mx K h (Rt (zI (ansT n q st (sc) fc hn ln v)) nx []) (0, 0)) (0, 0) 0 [(0, zR 0), (1, zI v)] [] (nx, h, [])
  refine wp_iload_n G 1 dX9_told_0 rfl ?_
  have sq1 : v = 0 ∨ v = 1 ∨ v = 2 ∨ v = 3 ∨ v = 4 ∨ v = 5 ∨ (v < 0 ∨ 5 < v) := by omega
  rcases sq1 with rfl | rfl | rfl | rfl | rfl | rfl | sq1
  · refine wp_tableIn (off := 39) (tgt := 40) G dX9_told_1 (by omega) (by omega) (by omega) rfl (by decide) ?_
    refine wp_aload_n G 0 dX9_told_40 rfl ?_
    refine wp_get G 1 cOk8 fX9_16 dX9_told_41 h0 rfl ?_
    refine wp_get G 0 cOk5 fX9_314 dX9_told_44 h2 rfl ?_
    exact wp_ireturn G hr dX9_told_47 ⟨by first | (rw [ansT]; simp; done) | (rw [ansT, if_neg (by omega), if_neg (by omega), if_neg (by omega), if_neg (by omega), if_neg (by omega), if_neg (by omega)]; first | (rw [if_pos (by omega)]; done) | (rw [if_neg (by omega)]; done)), rfl, by rfl⟩
  · refine wp_tableIn (off := 47) (tgt := 48) G dX9_told_1 (by omega) (by omega) (by omega) rfl (by decide) ?_
    refine wp_aload_n G 0 dX9_told_48 rfl ?_
    refine wp_get G 5 cOk8 fX9_44 dX9_told_49 h0 rfl ?_
    refine wp_get G 0 cOk7 fX9_253 dX9_told_52 h42 rfl ?_
    exact wp_ireturn G hr dX9_told_55 ⟨by first | (rw [ansT]; simp; done) | (rw [ansT, if_neg (by omega), if_neg (by omega), if_neg (by omega), if_neg (by omega), if_neg (by omega), if_neg (by omega)]; first | (rw [if_pos (by omega)]; done) | (rw [if_neg (by omega)]; done)), rfl, by rfl⟩
  · refine wp_tableIn (off := 55) (tgt := 56) G dX9_told_1 (by omega) (by omega) (by omega) rfl (by decide) ?_
    refine wp_aload_n G 0 dX9_told_56 rfl ?_
    refine wp_get G 7 cOk8 fX9_54 dX9_told_57 h0 rfl ?_
    exact wp_ireturn G hr dX9_told_60 ⟨by first | (rw [ansT]; simp; done) | (rw [ansT, if_neg (by omega), if_neg (by omega), if_neg (by omega), if_neg (by omega), if_neg (by omega), if_neg (by omega)]; first | (rw [if_pos (by omega)]; done) | (rw [if_neg (by omega)]; done)), rfl, by rfl⟩
  · refine wp_tableIn (off := 60) (tgt := 61) G dX9_told_1 (by omega) (by omega) (by omega) rfl (by decide) ?_
    refine wp_aload_n G 0 dX9_told_61 rfl ?_
    refine wp_get G 9 cOk8 fX9_68 dX9_told_62 h0 rfl ?_
    refine wp_get G 0 cOk2 fX9_280 dX9_told_65 h48 rfl ?_
    exact wp_ireturn G hr dX9_told_68 ⟨by first | (rw [ansT]; simp; done) | (rw [ansT, if_neg (by omega), if_neg (by omega), if_neg (by omega), if_neg (by omega), if_neg (by omega), if_neg (by omega)]; first | (rw [if_pos (by omega)]; done) | (rw [if_neg (by omega)]; done)), rfl, by rfl⟩
  · refine wp_tableIn (off := 68) (tgt := 69) G dX9_told_1 (by omega) (by omega) (by omega) rfl (by decide) ?_
    refine wp_aload_n G 0 dX9_told_69 rfl ?_
    refine wp_get G 9 cOk8 fX9_68 dX9_told_70 h0 rfl ?_
    refine wp_get G 7 cOk2 fX9_297 dX9_told_73 h48 rfl ?_
    exact wp_ireturn G hr dX9_told_76 ⟨by first | (rw [ansT]; simp; done) | (rw [ansT, if_neg (by omega), if_neg (by omega), if_neg (by omega), if_neg (by omega), if_neg (by omega), if_neg (by omega)]; first | (rw [if_pos (by omega)]; done) | (rw [if_neg (by omega)]; done)), rfl, by rfl⟩
  · refine wp_tableIn (off := 76) (tgt := 77) G dX9_told_1 (by omega) (by omega) (by omega) rfl (by decide) ?_
    refine wp_aload_n G 0 dX9_told_77 rfl ?_
    refine wp_get G 1 cOk8 fX9_16 dX9_told_78 h0 rfl ?_
    refine wp_cVE (b := 2) (ci := 5) (as := []) (rest := []) (hp2 := (nx, h, [])) G mX6_howManyBlasts lX9_315 iX6_howManyBlasts eX6_howManyBlasts ⟨_, rfl, rfl⟩ dX9_told_81 h2 rfl rfl (Nat.le_of_ble_eq_true rfl) (rmx_ok hR (by decide) (by decide) (by decide) (by decide)) (t_X6_howManyBlasts (nx := nx)  hQ hO) rfl ?_
    exact wp_ireturn G hr dX9_told_84 ⟨by first | (rw [ansT]; simp; done) | (rw [ansT, if_neg (by omega), if_neg (by omega), if_neg (by omega), if_neg (by omega), if_neg (by omega), if_neg (by omega)]; first | (rw [if_pos (by omega)]; done) | (rw [if_neg (by omega)]; done)), rfl, by rfl⟩
  · refine wp_tableOut (tgt := 85) G dX9_told_1 (by omega) sq1 (by decide) ?_
    refine wp_iload_n G 1 dX9_told_85 rfl ?_
    refine wp_bipush G dX9_told_86 (by decide) ?_
    refine wp_bipush G dX9_told_88 (by decide) ?_
    refine wp_cSE (as := [zI v, zI 10, zI 14]) (rest := []) (hp2 := (nx, h, [])) G mX9_within lX9_127 sX9_within dX9_told_90 rfl rfl (Nat.le_of_ble_eq_true rfl) (rmx_ok hR (by decide) (by decide) (by decide) (by decide)) (t_X9_within (nx := nx) (v := v) (lo := 10) (hi := 14) ri_v (by omega) (by omega)) rfl ?_
    refine wp_ifeq_bt G dX9_told_93 (fun kq1 => ?_) (fun kq1 => ?_)
    · skip
      refine wp_bipush G dX9_told_108 (by decide) ?_
      exact wp_ireturn G hr dX9_told_110 ⟨by first | (rw [ansT]; simp; done) | (rw [ansT, if_neg (by omega), if_neg (by omega), if_neg (by omega), if_neg (by omega), if_neg (by omega), if_neg (by omega)]; first | (rw [if_pos (by omega)]; done) | (rw [if_neg (by omega)]; done)), rfl, by rfl⟩
    · skip
      refine wp_aload_n G 0 dX9_told_96 rfl ?_
      refine wp_get G 0 cOk8 fX9_7 dX9_told_97 h0 rfl ?_
      refine wp_iload_n G 1 dX9_told_100 rfl ?_
      refine wp_bipush G dX9_told_101 (by decide) ?_
      refine wp_isub G dX9_told_103 ?_
      refine wp_iald (j := ((v - 10)).toNat) G dX9_told_104 h1 (by omega) (by omega) (by decide) ?_
      have rrq1 := hN.r (((v - 10)).toNat) (by omega)
      refine wp_goto G dX9_told_105 ?_
      exact wp_ireturn G hr dX9_told_110 ⟨by first | (rw [ansT]; simp; done) | (rw [ansT, if_neg (by omega), if_neg (by omega), if_neg (by omega), if_neg (by omega), if_neg (by omega), if_neg (by omega)]; first | (rw [if_pos (by omega)]; done) | (rw [if_neg (by omega)]; done)), rfl, by rfl⟩

set_option maxRecDepth 100000 in
set_option maxHeartbeats 4000000 in
theorem t_X10_told {nx : Nat} {h : Nat → Option PC} {n : Nat} {q : Nat → Nat → Int} {o : Nat → Nat} {fc : Nat} {hn : Nat} {ln : Nat} {ma : Int} {mb : Int} {st : Nat → Int} {hs : Nat → Nat → Int} {kd : Nat → Nat} {dm : Nat → Nat → Int} {lw : Nat → Nat → Int} {sm : Nat → Int} {sl : Nat → Nat} {ri : Nat → Int} {v : Int} (hQ : isM h n q o fc hn ln ma mb st) (hO : okQ n q o) (hN : okN st) (hG : isMg h hs kd dm lw) (hH : okH hn hs kd) (hD : okD dm) (hL : okL ln lw) (hT : isMt h sm sl ri) (hsl : ∀ f, f < 7 → sl f ≤ 48) (ri_v : r32 v) : Cx 1 (0, 0) yX10_told cX10_told 4 (some .int) [zR 64, zI v] nx h (Rt (zI (ansT n q st (sl 6) fc hn ln v)) nx []) := by
  refine cx_of pnX10_told (Nat.le_of_ble_eq_true rfl) ?_
  intro K G hr hnm hR
  obtain ⟨h64, h65, h66, h67, h68, h69, h70, h71, h72, h73⟩ := id hQ
  have hn40 := hO.1
  obtain ⟨hN0, hN1, hN2, hN3, hN4⟩ := id hN
  obtain ⟨h83, h84, h85, h86, h87, h88, h89, h90, h91, h92⟩ := id hG
  have hn12 := hH.1
  have ln12 := hL.1
  obtain ⟨h80, h81, h82⟩ := id hT
  have hsl6 := hsl 6 (by decide)
  show Wp K 4 (Mx K h (Rt (zI (ansT n q st (sl 6) fc hn ln v)) nx []) (0, 0)) (0, 0) 0 [(0, zR 64), (1, zI v)] [] (nx, h, [])
  refine wp_iload_n G 1 dX10_told_0 rfl ?_
  refine wp_i2l G (by omega) dX10_told_1 ?_
  refine wp_ldc2 (z := 10) G kX10_292 dX10_told_2 ?_
  refine wp_ldc2 (z := 14) G kX10_320 dX10_told_5 ?_
  refine wp_cSE (as := [zJ v, zJ 10, zJ 14]) (rest := []) (hp2 := (nx, h, [])) G mX10_in lX10_100 sX10_in dX10_told_8 rfl rfl (Nat.le_of_ble_eq_true rfl) (rmx_ok hR (by decide) (by decide) (by decide) (by decide)) (t_X10_in (nx := nx) (v := v) (lo := 10) (hi := 14) (by omega) (by omega) (by omega)) rfl ?_
  refine wp_ifeq_bt G dX10_told_11 (fun kq1 => ?_) (fun kq1 => ?_)
  · skip
    refine wp_iconst G dX10_told_24 ?_
    refine wp_istore_n (lv' := [(2, zI 0), (0, zR 64), (1, zI v)]) G dX10_told_25 (by decide) rfl ?_
    refine wp_iconst G dX10_told_26 ?_
    refine wp_istore_n (lv' := [(3, zI 0), (2, zI 0), (0, zR 64), (1, zI v)]) G dX10_told_27 (by decide) rfl ?_
    refine wp_lv [2, 3, 1, 0] rfl ?_
    suffices lp28 : ∀ (fu : Nat) (k : Nat) (v2 : Int) (v3 : Int), n - k < fu → (v2 = cntZ (fun j => q 6 j = 1) k) → (v3 = ((k : Nat) : Int)) → (k ≤ n) → Wp K 4 (Mx K h (Rt (zI (ansT n q st (sl 6) fc hn ln v)) nx []) (0, 0)) (0, 0) 28 [(0, zR 64), (1, zI v), (2, zI v2), (3, zI v3)] [] (nx, h, []) from lp28 _ 0 0 0 (Nat.lt_succ_self _) (by rfl) (by omega) (by omega)
    intro fu
    induction fu with
    | zero => intro k v2 v3 hm; exact absurd hm (Nat.not_lt_zero _)
    | succ fu ih28 =>
      intro k v2 v3 hm28 e2 e3 hi0
      subst e2
      subst e3
      refine wp_iload_n G 3 dX10_told_28 rfl ?_
      refine wp_aload_n G 0 dX10_told_29 rfl ?_
      refine wp_get G 7 cOk9 fX10_96 dX10_told_30 h64 rfl ?_
      refine wp_icmp_ge G dX10_told_33 (by omega) (by omega) (fun kq2 => ?_) (fun kq2 => ?_)
      · skip
        refine wp_iload_n G 1 dX10_told_59 rfl ?_
        have sq1 : v = 0 ∨ v = 1 ∨ v = 2 ∨ v = 3 ∨ v = 4 ∨ v = 5 ∨ (v < 0 ∨ 5 < v) := by omega
        rcases sq1 with rfl | rfl | rfl | rfl | rfl | rfl | sq1
        · refine wp_tableIn (off := 40) (tgt := 100) G dX10_told_60 (by omega) (by omega) (by omega) rfl (by decide) ?_
          refine wp_aload_n G 0 dX10_told_100 rfl ?_
          refine wp_get G 7 cOk9 fX10_96 dX10_told_101 h64 rfl ?_
          exact wp_ireturn G hr dX10_told_104 ⟨by first | (rw [ansT]; simp; done) | (rw [ansT, if_neg (by omega), if_neg (by omega), if_neg (by omega), if_neg (by omega), if_neg (by omega), if_neg (by omega)]; first | (rw [if_pos (by omega)]; done) | (rw [if_neg (by omega)]; done)), rfl, by rfl⟩
        · refine wp_tableIn (off := 45) (tgt := 105) G dX10_told_60 (by omega) (by omega) (by omega) rfl (by decide) ?_
          refine wp_aload_n G 0 dX10_told_105 rfl ?_
          refine wp_get G 19 cOk9 fX10_60 dX10_told_106 h64 rfl ?_
          refine wp_bipush G dX10_told_109 (by decide) ?_
          refine wp_iald (j := 6) G dX10_told_111 h81 rfl (by decide) (by decide) ?_
          exact wp_ireturn G hr dX10_told_112 ⟨by first | (rw [ansT]; simp; done) | (rw [ansT, if_neg (by omega), if_neg (by omega), if_neg (by omega), if_neg (by omega), if_neg (by omega), if_neg (by omega)]; first | (rw [if_pos (by omega)]; done) | (rw [if_neg (by omega)]; done)), rfl, by rfl⟩
        · refine wp_tableIn (off := 53) (tgt := 113) G dX10_told_60 (by omega) (by omega) (by omega) rfl (by decide) ?_
          refine wp_aload_n G 0 dX10_told_113 rfl ?_
          refine wp_get G 20 cOk9 fX10_264 dX10_told_114 h64 rfl ?_
          exact wp_ireturn G hr dX10_told_117 ⟨by first | (rw [ansT]; simp; done) | (rw [ansT, if_neg (by omega), if_neg (by omega), if_neg (by omega), if_neg (by omega), if_neg (by omega), if_neg (by omega)]; first | (rw [if_pos (by omega)]; done) | (rw [if_neg (by omega)]; done)), rfl, by rfl⟩
        · refine wp_tableIn (off := 58) (tgt := 118) G dX10_told_60 (by omega) (by omega) (by omega) rfl (by decide) ?_
          refine wp_aload_n G 0 dX10_told_118 rfl ?_
          refine wp_get G 27 cOk9 fX10_296 dX10_told_119 h64 rfl ?_
          exact wp_ireturn G hr dX10_told_122 ⟨by first | (rw [ansT]; simp; done) | (rw [ansT, if_neg (by omega), if_neg (by omega), if_neg (by omega), if_neg (by omega), if_neg (by omega), if_neg (by omega)]; first | (rw [if_pos (by omega)]; done) | (rw [if_neg (by omega)]; done)), rfl, by rfl⟩
        · refine wp_tableIn (off := 63) (tgt := 123) G dX10_told_60 (by omega) (by omega) (by omega) rfl (by decide) ?_
          refine wp_aload_n G 0 dX10_told_123 rfl ?_
          refine wp_get G 33 cOk9 fX10_305 dX10_told_124 h64 rfl ?_
          exact wp_ireturn G hr dX10_told_127 ⟨by first | (rw [ansT]; simp; done) | (rw [ansT, if_neg (by omega), if_neg (by omega), if_neg (by omega), if_neg (by omega), if_neg (by omega), if_neg (by omega)]; first | (rw [if_pos (by omega)]; done) | (rw [if_neg (by omega)]; done)), rfl, by rfl⟩
        · refine wp_tableIn (off := 68) (tgt := 128) G dX10_told_60 (by omega) (by omega) (by omega) rfl (by decide) ?_
          refine wp_iload_n G 2 dX10_told_128 rfl ?_
          exact wp_ireturn G hr dX10_told_129 ⟨by rw [ansT]; simp; rw [show k = n by omega], rfl, by rfl⟩
        · refine wp_tableOut (tgt := 130) G dX10_told_60 (by omega) sq1 (by decide) ?_
          refine wp_bipush G dX10_told_130 (by decide) ?_
          exact wp_ireturn G hr dX10_told_132 ⟨by first | (rw [ansT]; simp; done) | (rw [ansT, if_neg (by omega), if_neg (by omega), if_neg (by omega), if_neg (by omega), if_neg (by omega), if_neg (by omega)]; first | (rw [if_pos (by omega)]; done) | (rw [if_neg (by omega)]; done)), rfl, by rfl⟩
      · skip
        refine wp_iload_n G 2 dX10_told_36 rfl ?_
        refine wp_aload_n G 0 dX10_told_37 rfl ?_
        refine wp_get G 6 cOk9 fX10_28 dX10_told_38 h64 rfl ?_
        refine wp_iload_n G 3 dX10_told_41 rfl ?_
        refine wp_zald (j := k) G dX10_told_42 h71 rfl (by omega) (by decide) ?_
        have rrq1 := hO.b k (by omega)
        refine wp_if_eq G dX10_told_43 (by omega) (fun kq3 => ?_) (fun kq3 => ?_)
        · skip
          refine wp_iconst G dX10_told_50 ?_
          refine wp_iadd G dX10_told_51 ?_
          refine wp_istore_n (lv' := [(2, zI (cntZ (fun j => q 6 j = 1) k + 0)), (0, zR 64), (1, zI v), (3, zI ((k : Nat) : Int))]) G dX10_told_52 (by decide) rfl ?_
          refine wp_iinc (lv' := [(3, zI (((k : Nat) : Int) + 1)), (2, zI (cntZ (fun j => q 6 j = 1) k + 0)), (0, zR 64), (1, zI v)]) G 3 dX10_told_53 rfl (by decide) rfl ?_
          refine wp_goto G dX10_told_56 ?_
          refine wp_lv [2, 3, 1, 0] rfl ?_
          exact ih28 (k + 1) (cntZ (fun j => q 6 j = 1) k + 0) (((k : Nat) : Int) + 1) (by omega) (by first | (rw [cntZ_y (by omega)]; done) | (rw [cntZ_n (by omega)]; omega)) (by omega) (by omega)
        · skip
          refine wp_iconst G dX10_told_46 ?_
          refine wp_goto G dX10_told_47 ?_
          refine wp_iadd G dX10_told_51 ?_
          refine wp_istore_n (lv' := [(2, zI (cntZ (fun j => q 6 j = 1) k + 1)), (0, zR 64), (1, zI v), (3, zI ((k : Nat) : Int))]) G dX10_told_52 (by decide) rfl ?_
          refine wp_iinc (lv' := [(3, zI (((k : Nat) : Int) + 1)), (2, zI (cntZ (fun j => q 6 j = 1) k + 1)), (0, zR 64), (1, zI v)]) G 3 dX10_told_53 rfl (by decide) rfl ?_
          refine wp_goto G dX10_told_56 ?_
          refine wp_lv [2, 3, 1, 0] rfl ?_
          exact ih28 (k + 1) (cntZ (fun j => q 6 j = 1) k + 1) (((k : Nat) : Int) + 1) (by omega) (by first | (rw [cntZ_y (by omega)]; done) | (rw [cntZ_n (by omega)]; omega)) (by omega) (by omega)
  · skip
    refine wp_aload_n G 0 dX10_told_14 rfl ?_
    refine wp_get G 8 cOk9 fX10_32 dX10_told_15 h64 rfl ?_
    refine wp_iload_n G 1 dX10_told_18 rfl ?_
    refine wp_bipush G dX10_told_19 (by decide) ?_
    refine wp_isub G dX10_told_21 ?_
    refine wp_iald (j := ((v - 10)).toNat) G dX10_told_22 h72 (by omega) (by omega) (by decide) ?_
    have rrq2 := hN.r (((v - 10)).toNat) (by omega)
    exact wp_ireturn G hr dX10_told_23 ⟨by first | (rw [ansT]; simp; done) | (rw [ansT, if_neg (by omega), if_neg (by omega), if_neg (by omega), if_neg (by omega), if_neg (by omega), if_neg (by omega)]; first | (rw [if_pos (by omega)]; done) | (rw [if_neg (by omega)]; done)), rfl, by rfl⟩

