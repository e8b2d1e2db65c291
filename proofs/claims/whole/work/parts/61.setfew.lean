theorem leZ_b (j : Nat) : 0 ≤ leZ j ∧ leZ j ≤ 1 := by
  unfold leZ
  split <;> decide
theorem moZ_b (j : Nat) : 0 ≤ moZ j ∧ moZ j ≤ 100000 := by
  unfold moZ
  split
  · decide
  · split
    · decide
    · split
      · decide
      · split <;> decide
theorem ch_pascal : (List.range 8).all (fun a => (List.range (a + 1)).all (fun i => decide (chI (a + 1) (((i + 1 : Nat)) : Int) = chI a (((i + 1 : Nat)) : Int) + chI a ((i : Nat) : Int)))) = true := by decide +kernel
theorem ch_zero : (List.range 9).all (fun a => decide (chI a 0 = 1) && decide (chI a ((a : Nat) : Int) = 1) && decide (chI a (((a + 1 : Nat)) : Int) = 0)) = true := by decide +kernel
theorem ch_p {a i : Nat} (ha : a < 8) (hi : i ≤ a) : chI (a + 1) (((i + 1 : Nat)) : Int) = chI a (((i + 1 : Nat)) : Int) + chI a ((i : Nat) : Int) := of_decide_eq_true (List.all_eq_true.mp (List.all_eq_true.mp ch_pascal a (List.mem_range.mpr ha)) i (List.mem_range.mpr (by omega)))
theorem ch_z {a : Nat} (ha : a < 9) : chI a 0 = 1 ∧ chI a ((a : Nat) : Int) = 1 ∧ chI a (((a + 1 : Nat)) : Int) = 0 := by
  have h := List.all_eq_true.mp ch_zero a (List.mem_range.mpr ha)
  rw [Bool.and_eq_true, Bool.and_eq_true] at h
  exact ⟨of_decide_eq_true h.1.1, of_decide_eq_true h.1.2, of_decide_eq_true h.2⟩
def bnT (w v : Int) (a i : Nat) : Int := chI a ((i : Nat) : Int) * w ^ i * v ^ (a - i)
theorem bn_mid {w v : Int} {a k : Nat} (ha : a < 8) (hk : k < a) : bnT w v (a + 1) (k + 1) = v * bnT w v a (k + 1) + w * bnT w v a k := by
  unfold bnT
  rw [ch_p ha (by omega), show a + 1 - (k + 1) = (a - (k + 1)) + 1 by omega, show a - k = (a - (k + 1)) + 1 by omega, Int.pow_succ v, Int.pow_succ w, Int.add_mul, Int.add_mul]
  congr 1 <;> ac_rfl
theorem bn_sum {w v : Int} {a : Nat} (ha : a < 8) : ∀ k, k ≤ a → sumZ (bnT w v (a + 1)) (k + 1) = v * sumZ (bnT w v a) (k + 1) + w * sumZ (bnT w v a) k
  | 0, _ => by
    show 0 + bnT w v (a + 1) 0 = v * (0 + bnT w v a 0) + w * 0
    unfold bnT
    have h1 := (ch_z (a := a) (by omega)).1
    have h2 := (ch_z (a := a + 1) (by omega)).1
    rw [show (((0 : Nat)) : Int) = 0 from rfl, h1, h2, Nat.sub_zero, Nat.sub_zero, Int.pow_succ, Int.pow_zero, Int.mul_one, Int.one_mul, Int.one_mul, Int.zero_add, Int.zero_add, Int.mul_zero, Int.add_zero, Int.mul_comm]
  | k + 1, hk => by
    rw [sumZ_s, bn_sum ha k (by omega), bn_mid ha (by omega), sumZ_s (bnT w v a) (k + 1), sumZ_s (bnT w v a) k, Int.mul_add, Int.mul_add, Int.mul_add]
    rw [Int.mul_add w (sumZ (bnT w v a) k)]
    omega
theorem bn_top {w v : Int} {a : Nat} (ha : a < 8) : bnT w v (a + 1) (a + 1) = w * bnT w v a a := by
  unfold bnT
  rw [(ch_z (a := a + 1) (by omega)).2.1, (ch_z (a := a) (by omega)).2.1]
  simp only [Nat.sub_self, Int.pow_zero, Int.mul_one, Int.one_mul, Int.pow_succ]
  exact Int.mul_comm _ _
theorem bn_all (w v : Int) : ∀ a, a ≤ 8 → sumZ (bnT w v a) (a + 1) = (w + v) ^ a
  | 0, _ => by
    show 0 + bnT w v 0 0 = _
    unfold bnT
    rw [(ch_z (a := 0) (by omega)).2.1, Int.pow_zero, Nat.sub_self, Int.pow_zero, Int.pow_zero]
    rfl
  | a + 1, h => by
    rw [sumZ_s, bn_sum (by omega) a (Nat.le_refl a), bn_top (by omega), Int.pow_succ, ← bn_all w v a (by omega), sumZ_s, Int.mul_add, Int.add_mul, Int.mul_add, Int.mul_add, Int.mul_comm (sumZ (bnT w v a) a) w, Int.mul_comm (sumZ (bnT w v a) a) v, Int.mul_comm (bnT w v a a) w, Int.mul_comm (bnT w v a a) v]
    omega
theorem sumZ_le {f g : Nat → Int} : ∀ k, (∀ j, j < k → f j ≤ g j) → sumZ f k ≤ sumZ g k
  | 0, _ => Int.le_refl _
  | k + 1, h => by
    rw [sumZ_s, sumZ_s]
    exact Int.add_le_add (sumZ_le k (fun j hj => h j (by omega))) (h k (by omega))
theorem few_b {a : Nat} {m w t : Int} (ha : a ≤ 8) (hw : 1 ≤ w ∧ w < t) (ht : t ≤ 100) : 0 ≤ sumZ (fun i => ifZ (((i : Nat) : Int) ≤ m) (chI a ((i : Nat) : Int) * w ^ i * (t - w) ^ (a - i)) 0) (a + 1) ∧ sumZ (fun i => ifZ (((i : Nat) : Int) ≤ m) (chI a ((i : Nat) : Int) * w ^ i * (t - w) ^ (a - i)) 0) (a + 1) ≤ 10000000000000000 := by
  have hn : ∀ i, 0 ≤ chI a ((i : Nat) : Int) * w ^ i * (t - w) ^ (a - i) := fun i => Int.mul_nonneg (Int.mul_nonneg (chI_b (by omega) _).1 (pow_b (B := 100) (by omega) (by omega) i).1) (pow_b (B := 100) (by omega) (by omega) (a - i)).1
  constructor
  · have := sumZ_le (f := fun _ => 0) (g := fun i => ifZ (((i : Nat) : Int) ≤ m) (chI a ((i : Nat) : Int) * w ^ i * (t - w) ^ (a - i)) 0) (a + 1) (fun j _ => by
      by_cases c : ((j : Nat) : Int) ≤ m
      · rw [ifZ_y c]; exact hn j
      · rw [ifZ_n c]; exact Int.le_refl _)
    have h0 := sumZ_0 (f := fun _ => (0 : Int)) (a := 0) (a + 1) (by omega) (fun _ _ _ => rfl)
    rw [h0] at this
    exact this
  · refine Int.le_trans (sumZ_le (g := bnT w (t - w) a) (a + 1) (fun j _ => by
      by_cases c : ((j : Nat) : Int) ≤ m
      · rw [ifZ_y c]; exact Int.le_refl _
      · rw [ifZ_n c]; exact hn j)) ?_
    rw [bn_all w (t - w) a ha, show w + (t - w) = t by omega]
    have h1 := pow_b (b := t) (B := 100) (by omega) (by omega) a
    have h2 : (100 : Nat) ^ a ≤ 100 ^ 8 := Nat.pow_le_pow_right (by decide) ha
    omega
theorem few_end {a k : Nat} {m w t : Int} (hk : k ≤ a + 1) (h : a < k ∨ m < ((k : Nat) : Int)) : sumZ (fun i => ifZ (((i : Nat) : Int) ≤ m) (chI a ((i : Nat) : Int) * w ^ i * (t - w) ^ (a - i)) 0) k = sumZ (fun i => ifZ (((i : Nat) : Int) ≤ m) (chI a ((i : Nat) : Int) * w ^ i * (t - w) ^ (a - i)) 0) (a + 1) :=
  (sumZ_0 (a + 1) hk (fun j h1 h2 => by rw [ifZ_n (by omega)])).symm
noncomputable def ansF (a m w t p : Int) : Int := if ¬ ((1 ≤ a ∧ a ≤ 8) ∧ (2 ≤ t ∧ t ≤ 100) ∧ (1 ≤ w ∧ w ≤ t - 1) ∧ (0 ≤ p ∧ p ≤ 1)) then -1000000000000000002 else frc (sumZ (fun i => ifZ (((i : Nat) : Int) ≤ m) (chI a.toNat ((i : Nat) : Int) * w ^ i * (t - w) ^ (a.toNat - i)) 0) (a.toNat + 1)).toNat (t ^ a.toNat).toNat p

set_option maxRecDepth 100000 in
set_option maxHeartbeats 4000000 in
theorem t_X9_set {nx : Nat} {h : Nat → Option PC} {fc : Nat} {st : Nat → Int} {a : Int} {b : Int} (h0 : h 0 = some (oO 8 [zR 1, zR 2, zR 11, zR 34, zR 36, zR 42, zR 44, zI ((fc : Nat) : Int), zR 45, zR 48])) (h1 : h 1 = some (oA 0 5 st)) (hN : okN st) (ri_a : r32 a) (ri_b : r32 b) : Cx 1 (0, 0) yX9_set cX9_set 4 (some .int) [zR 0, zI a, zI b] nx h (fun rr nx' l' => nx' = nx ∧ ((¬ (∃ j : Nat, a = ((j : Nat) : Int) ∧ j < 5 ∧ leZ j ≤ b ∧ b ≤ moZ j) ∧ rr = some (zI (-2)) ∧ l' = []) ∨ (∃ j : Nat, a = ((j : Nat) : Int) ∧ j < 5 ∧ leZ j ≤ b ∧ b ≤ moZ j ∧ rr = some (zI (st j)) ∧ l' = [(1, oA 0 5 (fup st j b))]))) := by
  refine cx_of pnX9_set (Nat.le_of_ble_eq_true rfl) ?_
  intro K G hr hnm hR
  show Wp K 4 (Mx K h (fun rr nx' l' => nx' = nx ∧ ((¬ (∃ j : Nat, a = ((j : Nat) : Int) ∧ j < 5 ∧ leZ j ≤ b ∧ b ≤ moZ j) ∧ rr = some (zI (-2)) ∧ l' = []) ∨ (∃ j : Nat, a = ((j : Nat) : Int) ∧ j < 5 ∧ leZ j ≤ b ∧ b ≤ moZ j ∧ rr = some (zI (st j)) ∧ l' = [(1, oA 0 5 (fup st j b))]))) (0, 0)) (0, 0) 0 [(0, zR 0), (1, zI a), (2, zI b)] [] (nx, h, [])
  refine wp_iload_n G 1 dX9_set_0 rfl ?_
  refine wp_iconst G dX9_set_1 ?_
  refine wp_iconst G dX9_set_2 ?_
  refine wp_cSE (as := [zI a, zI 0, zI 4]) (rest := []) (hp2 := (nx, h, [])) G mX9_within lX9_127 sX9_within dX9_set_3 rfl rfl (Nat.le_of_ble_eq_true rfl) (rmx_ok hR (by decide) (by decide) (by decide) (by decide)) (t_X9_within (nx := nx) (v := a) (lo := 0) (hi := 4) (by omega) (by omega) (by omega)) rfl ?_
  refine wp_ifeq_bt G dX9_set_6 (fun kq1 => ?_) (fun kq1 => ?_)
  · skip
    refine wp_bipush G dX9_set_26 (by decide) ?_
    exact wp_ireturn G hr dX9_set_28 (by exact ⟨rfl, Or.inl (⟨by first | (rintro ⟨j, z1, z2, z3⟩; omega) | (rintro ⟨j, z1, z2, z3, z4⟩; have ej : j = aa := (by omega); subst ej; omega), rfl, rfl⟩)⟩)
  · skip
    obtain ⟨aa, e_aa⟩ := Int.eq_ofNat_of_zero_le (show 0 ≤ a from (by omega))
    subst e_aa
    refine wp_iload_n G 2 dX9_set_9 rfl ?_
    have hlz := leZ_b aa
    have hmz := moZ_b aa
    refine wp_stabE (j := aa) (jl := 1) (v := leZ aa) G 0 (by decide) rfl (wt_at 439 (by decide +kernel) (by decide +kernel)) dX9_set_10 dX9_set_13 dX9_set_14 rfl rfl (by show _ < 5; omega) ?_
    refine wp_stabE (j := aa) (jl := 1) (v := moZ aa) G 1 (by decide) rfl (wt_at 441 (by decide +kernel) (by decide +kernel)) dX9_set_15 dX9_set_18 dX9_set_19 rfl rfl (by show _ < 5; omega) ?_
    refine wp_cSE (as := [zI b, zI (leZ aa), zI (moZ aa)]) (rest := []) (hp2 := (nx, h, [])) G mX9_within lX9_127 sX9_within dX9_set_20 rfl rfl (Nat.le_of_ble_eq_true rfl) (rmx_ok hR (by decide) (by decide) (by decide) (by decide)) (t_X9_within (nx := nx) (v := b) (lo := (leZ aa)) (hi := (moZ aa)) (by omega) (by omega) (by omega)) rfl ?_
    refine wp_ifne_bt G dX9_set_23 (fun kq2 => ?_) (fun kq2 => ?_)
    · skip
      refine wp_aload_n G 0 dX9_set_29 rfl ?_
      refine wp_get G 0 cOk8 fX9_7 dX9_set_30 h0 rfl ?_
      refine wp_iload_n G 1 dX9_set_33 rfl ?_
      refine wp_iald (j := aa) G dX9_set_34 h1 rfl (by omega) (by decide) ?_
      have rrq1 := hN.r aa (by omega)
      refine wp_istore_n (lv' := [(3, zI (st aa)), (0, zR 0), (1, zI ((aa : Nat) : Int)), (2, zI b)]) G dX9_set_35 (by decide) rfl ?_
      refine wp_aload_n G 1 dX9_set_36 rfl ?_
      refine wp_get G 0 cOk8 fX9_7 dX9_set_37 h0 rfl ?_
      refine wp_iload_n G 2 dX9_set_40 rfl ?_
      refine wp_iload_n G 3 dX9_set_41 rfl ?_
      refine wp_iastE (j := aa) (hp2 := (nx, h, [(1, oA 0 5 (fup st aa b))])) G dX9_set_42 h1 rfl (by omega) (by decide) rfl ?_
      refine wp_iload_n G 0 dX9_set_43 rfl ?_
      exact wp_ireturn G hr dX9_set_44 (by exact ⟨rfl, Or.inr (⟨aa, rfl, by omega, by omega, by omega, rfl, rfl⟩)⟩)
    · skip
      refine wp_bipush G dX9_set_26 (by decide) ?_
      exact wp_ireturn G hr dX9_set_28 (by exact ⟨rfl, Or.inl (⟨by first | (rintro ⟨j, z1, z2, z3⟩; omega) | (rintro ⟨j, z1, z2, z3, z4⟩; have ej : j = aa := (by omega); subst ej; omega), rfl, rfl⟩)⟩)

set_option maxRecDepth 100000 in
set_option maxHeartbeats 4000000 in
theorem t_X10_set {nx : Nat} {h : Nat → Option PC} {n : Nat} {q : Nat → Nat → Int} {o : Nat → Nat} {fc : Nat} {hn : Nat} {ln : Nat} {ma : Int} {mb : Int} {st : Nat → Int} {a : Int} {b : Int} (hQ : isM h n q o fc hn ln ma mb st) (hO : okQ n q o) (hN : okN st) (ri_a : r32 a) (ri_b : r32 b) : Cx 1 (0, 0) yX10_set cX10_set 4 (some .int) [zR 64, zI a, zI b] nx h (fun rr nx' l' => nx' = nx ∧ ((¬ (∃ j : Nat, a = ((j : Nat) : Int) ∧ j < 5 ∧ leZ j ≤ b ∧ b ≤ moZ j) ∧ rr = some (zI (-2)) ∧ l' = []) ∨ (∃ j : Nat, a = ((j : Nat) : Int) ∧ j < 5 ∧ leZ j ≤ b ∧ b ≤ moZ j ∧ rr = some (zI (st j)) ∧ l' = [(72, oA 0 5 (fup st j b))]))) := by
  refine cx_of pnX10_set (Nat.le_of_ble_eq_true rfl) ?_
  intro K G hr hnm hR
  obtain ⟨h64, h65, h66, h67, h68, h69, h70, h71, h72, h73⟩ := id hQ
  have hn40 := hO.1
  obtain ⟨hN0, hN1, hN2, hN3, hN4⟩ := id hN
  show Wp K 4 (Mx K h (fun rr nx' l' => nx' = nx ∧ ((¬ (∃ j : Nat, a = ((j : Nat) : Int) ∧ j < 5 ∧ leZ j ≤ b ∧ b ≤ moZ j) ∧ rr = some (zI (-2)) ∧ l' = []) ∨ (∃ j : Nat, a = ((j : Nat) : Int) ∧ j < 5 ∧ leZ j ≤ b ∧ b ≤ moZ j ∧ rr = some (zI (st j)) ∧ l' = [(72, oA 0 5 (fup st j b))]))) (0, 0)) (0, 0) 0 [(0, zR 64), (1, zI a), (2, zI b)] [] (nx, h, [])
  refine wp_iload_n G 1 dX10_set_0 rfl ?_
  refine wp_i2l G (by omega) dX10_set_1 ?_
  refine wp_lconst (z := 0) G dX10_set_2 (by decide) ?_
  refine wp_ldc2 (z := 4) G kX10_134 dX10_set_3 ?_
  refine wp_cSE (as := [zJ a, zJ 0, zJ 4]) (rest := []) (hp2 := (nx, h, [])) G mX10_in lX10_100 sX10_in dX10_set_6 rfl rfl (Nat.le_of_ble_eq_true rfl) (rmx_ok hR (by decide) (by decide) (by decide) (by decide)) (t_X10_in (nx := nx) (v := a) (lo := 0) (hi := 4) (by omega) (by omega) (by omega)) rfl ?_
  refine wp_ifeq_bt G dX10_set_9 (fun kq1 => ?_) (fun kq1 => ?_)
  · skip
    refine wp_bipush G dX10_set_35 (by decide) ?_
    exact wp_ireturn G hr dX10_set_37 (by exact ⟨rfl, Or.inl (⟨by first | (rintro ⟨j, z1, z2, z3⟩; omega) | (rintro ⟨j, z1, z2, z3, z4⟩; have ej2 : j = (a) := (by omega); subst ej2; unfold leZ at z3; unfold moZ at z4; simp at z3 z4; omega), rfl, rfl⟩)⟩)
  · skip
    rcases (show a = 0 ∨ a = 1 ∨ a = 2 ∨ a = 3 ∨ a = 4 by omega) with rfl | rfl | rfl | rfl | rfl
    · skip
      refine wp_iload_n G 2 dX10_set_12 rfl ?_
      refine wp_i2l G (by omega) dX10_set_13 ?_
      refine wp_iload_n G 1 dX10_set_14 rfl ?_
      refine wp_iconst G dX10_set_15 ?_
      refine wp_icmp_ne G dX10_set_16 (by omega) (by omega) (fun kq2 => ?_) (fun kq2 => ?_)
      · skip
        refine wp_lconst (z := 0) G dX10_set_23 (by decide) ?_
        refine wp_iload_n G 1 dX10_set_24 rfl ?_
        refine wp_cSE (as := [zI 0]) (rest := [zJ 0, zJ b]) (hp2 := (nx, h, [])) G mX10_mostOf lX10_136 sX10_mostOf dX10_set_25 rfl rfl (Nat.le_of_ble_eq_true rfl) (rmx_ok hR (by decide) (by decide) (by decide) (by decide)) (t_X10_mostOf (nx := nx) (v := 0) (by omega)) rfl ?_
        show Wp K 4 (Mx K h (fun rr nx' l' => nx' = nx ∧ ((¬ (∃ j : Nat, 0 = ((j : Nat) : Int) ∧ j < 5 ∧ leZ j ≤ b ∧ b ≤ moZ j) ∧ rr = some (zI (-2)) ∧ l' = []) ∨ (∃ j : Nat, 0 = ((j : Nat) : Int) ∧ j < 5 ∧ leZ j ≤ b ∧ b ≤ moZ j ∧ rr = some (zI (st j)) ∧ l' = [(72, oA 0 5 (fup st j b))]))) (0, 0)) (0, 0) 28 [(0, zR 64), (1, zI 0), (2, zI b)] [zI 10, zJ 0, zJ b] (nx, h, [])
        refine wp_i2l G (by omega) dX10_set_28 ?_
        refine wp_cSE (as := [zJ b, zJ 0, zJ 10]) (rest := []) (hp2 := (nx, h, [])) G mX10_in lX10_100 sX10_in dX10_set_29 rfl rfl (Nat.le_of_ble_eq_true rfl) (rmx_ok hR (by decide) (by decide) (by decide) (by decide)) (t_X10_in (nx := nx) (v := b) (lo := 0) (hi := 10) (by omega) (by omega) (by omega)) rfl ?_
        refine wp_ifne_bt G dX10_set_32 (fun kq3 => ?_) (fun kq3 => ?_)
        · skip
          refine wp_aload_n G 0 dX10_set_38 rfl ?_
          refine wp_get G 8 cOk9 fX10_32 dX10_set_39 h64 rfl ?_
          refine wp_iload_n G 1 dX10_set_42 rfl ?_
          refine wp_iald (j := 0) G dX10_set_43 h72 rfl (by decide) (by decide) ?_
          have rrq1 := hN.r 0 (by decide)
          refine wp_istore_n (lv' := [(3, zI (st 0)), (0, zR 64), (1, zI 0), (2, zI b)]) G dX10_set_44 (by decide) rfl ?_
          refine wp_aload_n G 1 dX10_set_45 rfl ?_
          refine wp_get G 8 cOk9 fX10_32 dX10_set_46 h64 rfl ?_
          refine wp_iload_n G 2 dX10_set_49 rfl ?_
          refine wp_iload_n G 3 dX10_set_50 rfl ?_
          refine wp_iastE (j := 0) (hp2 := (nx, h, [(72, oA 0 5 (fup st 0 b))])) G dX10_set_51 h72 rfl (by decide) (by decide) rfl ?_
          refine wp_iload_n G 0 dX10_set_52 rfl ?_
          exact wp_ireturn G hr dX10_set_53 (by exact ⟨rfl, Or.inr (⟨0, rfl, by decide, by unfold leZ; simp; omega, by unfold moZ; simp; omega, rfl, rfl⟩)⟩)
        · skip
          refine wp_bipush G dX10_set_35 (by decide) ?_
          exact wp_ireturn G hr dX10_set_37 (by exact ⟨rfl, Or.inl (⟨by first | (rintro ⟨j, z1, z2, z3⟩; omega) | (rintro ⟨j, z1, z2, z3, z4⟩; have ej2 : j = (0) := (by omega); subst ej2; unfold leZ at z3; unfold moZ at z4; simp at z3 z4; omega), rfl, rfl⟩)⟩)
      · skip
        refine wp_lconst (z := 1) G dX10_set_19 (by decide) ?_
        refine wp_goto G dX10_set_20 ?_
        refine wp_iload_n G 1 dX10_set_24 rfl ?_
        refine wp_cSE (as := [zI 0]) (rest := [zJ 1, zJ b]) (hp2 := (nx, h, [])) G mX10_mostOf lX10_136 sX10_mostOf dX10_set_25 rfl rfl (Nat.le_of_ble_eq_true rfl) (rmx_ok hR (by decide) (by decide) (by decide) (by decide)) (t_X10_mostOf (nx := nx) (v := 0) (by omega)) rfl ?_
        show Wp K 4 (Mx K h (fun rr nx' l' => nx' = nx ∧ ((¬ (∃ j : Nat, 0 = ((j : Nat) : Int) ∧ j < 5 ∧ leZ j ≤ b ∧ b ≤ moZ j) ∧ rr = some (zI (-2)) ∧ l' = []) ∨ (∃ j : Nat, 0 = ((j : Nat) : Int) ∧ j < 5 ∧ leZ j ≤ b ∧ b ≤ moZ j ∧ rr = some (zI (st j)) ∧ l' = [(72, oA 0 5 (fup st j b))]))) (0, 0)) (0, 0) 28 [(0, zR 64), (1, zI 0), (2, zI b)] [zI 10, zJ 1, zJ b] (nx, h, [])
        refine wp_i2l G (by omega) dX10_set_28 ?_
        refine wp_cSE (as := [zJ b, zJ 1, zJ 10]) (rest := []) (hp2 := (nx, h, [])) G mX10_in lX10_100 sX10_in dX10_set_29 rfl rfl (Nat.le_of_ble_eq_true rfl) (rmx_ok hR (by decide) (by decide) (by decide) (by decide)) (t_X10_in (nx := nx) (v := b) (lo := 1) (hi := 10) (by omega) (by omega) (by omega)) rfl ?_
        refine wp_ifne_bt G dX10_set_32 (fun kq4 => ?_) (fun kq4 => ?_)
        · skip
          refine wp_aload_n G 0 dX10_set_38 rfl ?_
          refine wp_get G 8 cOk9 fX10_32 dX10_set_39 h64 rfl ?_
          refine wp_iload_n G 1 dX10_set_42 rfl ?_
          refine wp_iald (j := 0) G dX10_set_43 h72 rfl (by decide) (by decide) ?_
          have rrq2 := hN.r 0 (by decide)
          refine wp_istore_n (lv' := [(3, zI (st 0)), (0, zR 64), (1, zI 0), (2, zI b)]) G dX10_set_44 (by decide) rfl ?_
          refine wp_aload_n G 1 dX10_set_45 rfl ?_
          refine wp_get G 8 cOk9 fX10_32 dX10_set_46 h64 rfl ?_
          refine wp_iload_n G 2 dX10_set_49 rfl ?_
          refine wp_iload_n G 3 dX10_set_50 rfl ?_
          refine wp_iastE (j := 0) (hp2 := (nx, h, [(72, oA 0 5 (fup st 0 b))])) G dX10_set_51 h72 rfl (by decide) (by decide) rfl ?_
          refine wp_iload_n G 0 dX10_set_52 rfl ?_
          exact wp_ireturn G hr dX10_set_53 (by exact ⟨rfl, Or.inr (⟨0, rfl, by decide, by unfold leZ; simp; omega, by unfold moZ; simp; omega, rfl, rfl⟩)⟩)
        · skip
          refine wp_bipush G dX10_set_35 (by decide) ?_
          exact wp_ireturn G hr dX10_set_37 (by exact ⟨rfl, Or.inl (⟨by first | (rintro ⟨j, z1, z2, z3⟩; omega) | (rintro ⟨j, z1, z2, z3, z4⟩; have ej2 : j = (0) := (by omega); subst ej2; unfold leZ at z3; unfold moZ at z4; simp at z3 z4; omega), rfl, rfl⟩)⟩)
    · skip
      refine wp_iload_n G 2 dX10_set_12 rfl ?_
      refine wp_i2l G (by omega) dX10_set_13 ?_
      refine wp_iload_n G 1 dX10_set_14 rfl ?_
      refine wp_iconst G dX10_set_15 ?_
      refine wp_icmp_ne G dX10_set_16 (by omega) (by omega) (fun kq5 => ?_) (fun kq5 => ?_)
      · skip
        refine wp_lconst (z := 0) G dX10_set_23 (by decide) ?_
        refine wp_iload_n G 1 dX10_set_24 rfl ?_
        refine wp_cSE (as := [zI 1]) (rest := [zJ 0, zJ b]) (hp2 := (nx, h, [])) G mX10_mostOf lX10_136 sX10_mostOf dX10_set_25 rfl rfl (Nat.le_of_ble_eq_true rfl) (rmx_ok hR (by decide) (by decide) (by decide) (by decide)) (t_X10_mostOf (nx := nx) (v := 1) (by omega)) rfl ?_
        show Wp K 4 (Mx K h (fun rr nx' l' => nx' = nx ∧ ((¬ (∃ j : Nat, 1 = ((j : Nat) : Int) ∧ j < 5 ∧ leZ j ≤ b ∧ b ≤ moZ j) ∧ rr = some (zI (-2)) ∧ l' = []) ∨ (∃ j : Nat, 1 = ((j : Nat) : Int) ∧ j < 5 ∧ leZ j ≤ b ∧ b ≤ moZ j ∧ rr = some (zI (st j)) ∧ l' = [(72, oA 0 5 (fup st j b))]))) (0, 0)) (0, 0) 28 [(0, zR 64), (1, zI 1), (2, zI b)] [zI 5, zJ 0, zJ b] (nx, h, [])
        refine wp_i2l G (by omega) dX10_set_28 ?_
        refine wp_cSE (as := [zJ b, zJ 0, zJ 5]) (rest := []) (hp2 := (nx, h, [])) G mX10_in lX10_100 sX10_in dX10_set_29 rfl rfl (Nat.le_of_ble_eq_true rfl) (rmx_ok hR (by decide) (by decide) (by decide) (by decide)) (t_X10_in (nx := nx) (v := b) (lo := 0) (hi := 5) (by omega) (by omega) (by omega)) rfl ?_
        refine wp_ifne_bt G dX10_set_32 (fun kq6 => ?_) (fun kq6 => ?_)
        · skip
          refine wp_aload_n G 0 dX10_set_38 rfl ?_
          refine wp_get G 8 cOk9 fX10_32 dX10_set_39 h64 rfl ?_
          refine wp_iload_n G 1 dX10_set_42 rfl ?_
          refine wp_iald (j := 1) G dX10_set_43 h72 rfl (by decide) (by decide) ?_
          have rrq3 := hN.r 1 (by decide)
          refine wp_istore_n (lv' := [(3, zI (st 1)), (0, zR 64), (1, zI 1), (2, zI b)]) G dX10_set_44 (by decide) rfl ?_
          refine wp_aload_n G 1 dX10_set_45 rfl ?_
          refine wp_get G 8 cOk9 fX10_32 dX10_set_46 h64 rfl ?_
          refine wp_iload_n G 2 dX10_set_49 rfl ?_
          refine wp_iload_n G 3 dX10_set_50 rfl ?_
          refine wp_iastE (j := 1) (hp2 := (nx, h, [(72, oA 0 5 (fup st 1 b))])) G dX10_set_51 h72 rfl (by decide) (by decide) rfl ?_
          refine wp_iload_n G 0 dX10_set_52 rfl ?_
          exact wp_ireturn G hr dX10_set_53 (by exact ⟨rfl, Or.inr (⟨1, rfl, by decide, by unfold leZ; simp; omega, by unfold moZ; simp; omega, rfl, rfl⟩)⟩)
        · skip
          refine wp_bipush G dX10_set_35 (by decide) ?_
          exact wp_ireturn G hr dX10_set_37 (by exact ⟨rfl, Or.inl (⟨by first | (rintro ⟨j, z1, z2, z3⟩; omega) | (rintro ⟨j, z1, z2, z3, z4⟩; have ej2 : j = (1) := (by omega); subst ej2; unfold leZ at z3; unfold moZ at z4; simp at z3 z4; omega), rfl, rfl⟩)⟩)
      · skip
        refine wp_lconst (z := 1) G dX10_set_19 (by decide) ?_
        refine wp_goto G dX10_set_20 ?_
        refine wp_iload_n G 1 dX10_set_24 rfl ?_
        refine wp_cSE (as := [zI 1]) (rest := [zJ 1, zJ b]) (hp2 := (nx, h, [])) G mX10_mostOf lX10_136 sX10_mostOf dX10_set_25 rfl rfl (Nat.le_of_ble_eq_true rfl) (rmx_ok hR (by decide) (by decide) (by decide) (by decide)) (t_X10_mostOf (nx := nx) (v := 1) (by omega)) rfl ?_
        show Wp K 4 (Mx K h (fun rr nx' l' => nx' = nx ∧ ((¬ (∃ j : Nat, 1 = ((j : Nat) : Int) ∧ j < 5 ∧ leZ j ≤ b ∧ b ≤ moZ j) ∧ rr = some (zI (-2)) ∧ l' = []) ∨ (∃ j : Nat, 1 = ((j : Nat) : Int) ∧ j < 5 ∧ leZ j ≤ b ∧ b ≤ moZ j ∧ rr = some (zI (st j)) ∧ l' = [(72, oA 0 5 (fup st j b))]))) (0, 0)) (0, 0) 28 [(0, zR 64), (1, zI 1), (2, zI b)] [zI 5, zJ 1, zJ b] (nx, h, [])
        refine wp_i2l G (by omega) dX10_set_28 ?_
        refine wp_cSE (as := [zJ b, zJ 1, zJ 5]) (rest := []) (hp2 := (nx, h, [])) G mX10_in lX10_100 sX10_in dX10_set_29 rfl rfl (Nat.le_of_ble_eq_true rfl) (rmx_ok hR (by decide) (by decide) (by decide) (by decide)) (t_X10_in (nx := nx) (v := b) (lo := 1) (hi := 5) (by omega) (by omega) (by omega)) rfl ?_
        refine wp_ifne_bt G dX10_set_32 (fun kq7 => ?_) (fun kq7 => ?_)
        · skip
          refine wp_aload_n G 0 dX10_set_38 rfl ?_
          refine wp_get G 8 cOk9 fX10_32 dX10_set_39 h64 rfl ?_
          refine wp_iload_n G 1 dX10_set_42 rfl ?_
          refine wp_iald (j := 1) G dX10_set_43 h72 rfl (by decide) (by decide) ?_
          have rrq4 := hN.r 1 (by decide)
          refine wp_istore_n (lv' := [(3, zI (st 1)), (0, zR 64), (1, zI 1), (2, zI b)]) G dX10_set_44 (by decide) rfl ?_
          refine wp_aload_n G 1 dX10_set_45 rfl ?_
          refine wp_get G 8 cOk9 fX10_32 dX10_set_46 h64 rfl ?_
          refine wp_iload_n G 2 dX10_set_49 rfl ?_
          refine wp_iload_n G 3 dX10_set_50 rfl ?_
          refine wp_iastE (j := 1) (hp2 := (nx, h, [(72, oA 0 5 (fup st 1 b))])) G dX10_set_51 h72 rfl (by decide) (by decide) rfl ?_
          refine wp_iload_n G 0 dX10_set_52 rfl ?_
          exact wp_ireturn G hr dX10_set_53 (by exact ⟨rfl, Or.inr (⟨1, rfl, by decide, by unfold leZ; simp; omega, by unfold moZ; simp; omega, rfl, rfl⟩)⟩)
        · skip
          refine wp_bipush G dX10_set_35 (by decide) ?_
          exact wp_ireturn G hr dX10_set_37 (by exact ⟨rfl, Or.inl (⟨by first | (rintro ⟨j, z1, z2, z3⟩; omega) | (rintro ⟨j, z1, z2, z3, z4⟩; have ej2 : j = (1) := (by omega); subst ej2; unfold leZ at z3; unfold moZ at z4; simp at z3 z4; omega), rfl, rfl⟩)⟩)
    · skip
      refine wp_iload_n G 2 dX10_set_12 rfl ?_
      refine wp_i2l G (by omega) dX10_set_13 ?_
      refine wp_iload_n G 1 dX10_set_14 rfl ?_
      refine wp_iconst G dX10_set_15 ?_
      refine wp_icmp_ne G dX10_set_16 (by omega) (by omega) (fun kq8 => ?_) (fun kq8 => ?_)
      · skip
        refine wp_lconst (z := 0) G dX10_set_23 (by decide) ?_
        refine wp_iload_n G 1 dX10_set_24 rfl ?_
        refine wp_cSE (as := [zI 2]) (rest := [zJ 0, zJ b]) (hp2 := (nx, h, [])) G mX10_mostOf lX10_136 sX10_mostOf dX10_set_25 rfl rfl (Nat.le_of_ble_eq_true rfl) (rmx_ok hR (by decide) (by decide) (by decide) (by decide)) (t_X10_mostOf (nx := nx) (v := 2) (by omega)) rfl ?_
        show Wp K 4 (Mx K h (fun rr nx' l' => nx' = nx ∧ ((¬ (∃ j : Nat, 2 = ((j : Nat) : Int) ∧ j < 5 ∧ leZ j ≤ b ∧ b ≤ moZ j) ∧ rr = some (zI (-2)) ∧ l' = []) ∨ (∃ j : Nat, 2 = ((j : Nat) : Int) ∧ j < 5 ∧ leZ j ≤ b ∧ b ≤ moZ j ∧ rr = some (zI (st j)) ∧ l' = [(72, oA 0 5 (fup st j b))]))) (0, 0)) (0, 0) 28 [(0, zR 64), (1, zI 2), (2, zI b)] [zI 20, zJ 0, zJ b] (nx, h, [])
        refine wp_i2l G (by omega) dX10_set_28 ?_
        refine wp_cSE (as := [zJ b, zJ 0, zJ 20]) (rest := []) (hp2 := (nx, h, [])) G mX10_in lX10_100 sX10_in dX10_set_29 rfl rfl (Nat.le_of_ble_eq_true rfl) (rmx_ok hR (by decide) (by decide) (by decide) (by decide)) (t_X10_in (nx := nx) (v := b) (lo := 0) (hi := 20) (by omega) (by omega) (by omega)) rfl ?_
        refine wp_ifne_bt G dX10_set_32 (fun kq9 => ?_) (fun kq9 => ?_)
        · skip
          refine wp_aload_n G 0 dX10_set_38 rfl ?_
          refine wp_get G 8 cOk9 fX10_32 dX10_set_39 h64 rfl ?_
          refine wp_iload_n G 1 dX10_set_42 rfl ?_
          refine wp_iald (j := 2) G dX10_set_43 h72 rfl (by decide) (by decide) ?_
          have rrq5 := hN.r 2 (by decide)
          refine wp_istore_n (lv' := [(3, zI (st 2)), (0, zR 64), (1, zI 2), (2, zI b)]) G dX10_set_44 (by decide) rfl ?_
          refine wp_aload_n G 1 dX10_set_45 rfl ?_
          refine wp_get G 8 cOk9 fX10_32 dX10_set_46 h64 rfl ?_
          refine wp_iload_n G 2 dX10_set_49 rfl ?_
          refine wp_iload_n G 3 dX10_set_50 rfl ?_
          refine wp_iastE (j := 2) (hp2 := (nx, h, [(72, oA 0 5 (fup st 2 b))])) G dX10_set_51 h72 rfl (by decide) (by decide) rfl ?_
          refine wp_iload_n G 0 dX10_set_52 rfl ?_
          exact wp_ireturn G hr dX10_set_53 (by exact ⟨rfl, Or.inr (⟨2, rfl, by decide, by unfold leZ; simp; omega, by unfold moZ; simp; omega, rfl, rfl⟩)⟩)
        · skip
          refine wp_bipush G dX10_set_35 (by decide) ?_
          exact wp_ireturn G hr dX10_set_37 (by exact ⟨rfl, Or.inl (⟨by first | (rintro ⟨j, z1, z2, z3⟩; omega) | (rintro ⟨j, z1, z2, z3, z4⟩; have ej2 : j = (2) := (by omega); subst ej2; unfold leZ at z3; unfold moZ at z4; simp at z3 z4; omega), rfl, rfl⟩)⟩)
      · skip
        refine wp_lconst (z := 1) G dX10_set_19 (by decide) ?_
        refine wp_goto G dX10_set_20 ?_
        refine wp_iload_n G 1 dX10_set_24 rfl ?_
        refine wp_cSE (as := [zI 2]) (rest := [zJ 1, zJ b]) (hp2 := (nx, h, [])) G mX10_mostOf lX10_136 sX10_mostOf dX10_set_25 rfl rfl (Nat.le_of_ble_eq_true rfl) (rmx_ok hR (by decide) (by decide) (by decide) (by decide)) (t_X10_mostOf (nx := nx) (v := 2) (by omega)) rfl ?_
        show Wp K 4 (Mx K h (fun rr nx' l' => nx' = nx ∧ ((¬ (∃ j : Nat, 2 = ((j : Nat) : Int) ∧ j < 5 ∧ leZ j ≤ b ∧ b ≤ moZ j) ∧ rr = some (zI (-2)) ∧ l' = []) ∨ (∃ j : Nat, 2 = ((j : Nat) : Int) ∧ j < 5 ∧ leZ j ≤ b ∧ b ≤ moZ j ∧ rr = some (zI (st j)) ∧ l' = [(72, oA 0 5 (fup st j b))]))) (0, 0)) (0, 0) 28 [(0, zR 64), (1, zI 2), (2, zI b)] [zI 20, zJ 1, zJ b] (nx, h, [])
        refine wp_i2l G (by omega) dX10_set_28 ?_
        refine wp_cSE (as := [zJ b, zJ 1, zJ 20]) (rest := []) (hp2 := (nx, h, [])) G mX10_in lX10_100 sX10_in dX10_set_29 rfl rfl (Nat.le_of_ble_eq_true rfl) (rmx_ok hR (by decide) (by decide) (by decide) (by decide)) (t_X10_in (nx := nx) (v := b) (lo := 1) (hi := 20) (by omega) (by omega) (by omega)) rfl ?_
        refine wp_ifne_bt G dX10_set_32 (fun kq10 => ?_) (fun kq10 => ?_)
        · skip
          refine wp_aload_n G 0 dX10_set_38 rfl ?_
          refine wp_get G 8 cOk9 fX10_32 dX10_set_39 h64 rfl ?_
          refine wp_iload_n G 1 dX10_set_42 rfl ?_
          refine wp_iald (j := 2) G dX10_set_43 h72 rfl (by decide) (by decide) ?_
          have rrq6 := hN.r 2 (by decide)
          refine wp_istore_n (lv' := [(3, zI (st 2)), (0, zR 64), (1, zI 2), (2, zI b)]) G dX10_set_44 (by decide) rfl ?_
          refine wp_aload_n G 1 dX10_set_45 rfl ?_
          refine wp_get G 8 cOk9 fX10_32 dX10_set_46 h64 rfl ?_
          refine wp_iload_n G 2 dX10_set_49 rfl ?_
          refine wp_iload_n G 3 dX10_set_50 rfl ?_
          refine wp_iastE (j := 2) (hp2 := (nx, h, [(72, oA 0 5 (fup st 2 b))])) G dX10_set_51 h72 rfl (by decide) (by decide) rfl ?_
          refine wp_iload_n G 0 dX10_set_52 rfl ?_
          exact wp_ireturn G hr dX10_set_53 (by exact ⟨rfl, Or.inr (⟨2, rfl, by decide, by unfold leZ; simp; omega, by unfold moZ; simp; omega, rfl, rfl⟩)⟩)
        · skip
          refine wp_bipush G dX10_set_35 (by decide) ?_
          exact wp_ireturn G hr dX10_set_37 (by exact ⟨rfl, Or.inl (⟨by first | (rintro ⟨j, z1, z2, z3⟩; omega) | (rintro ⟨j, z1, z2, z3, z4⟩; have ej2 : j = (2) := (by omega); subst ej2; unfold leZ at z3; unfold moZ at z4; simp at z3 z4; omega), rfl, rfl⟩)⟩)
    · skip
      refine wp_iload_n G 2 dX10_set_12 rfl ?_
      refine wp_i2l G (by omega) dX10_set_13 ?_
      refine wp_iload_n G 1 dX10_set_14 rfl ?_
      refine wp_iconst G dX10_set_15 ?_
      refine wp_icmp_ne G dX10_set_16 (by omega) (by omega) (fun kq11 => ?_) (fun kq11 => ?_)
      · skip
        refine wp_lconst (z := 0) G dX10_set_23 (by decide) ?_
        refine wp_iload_n G 1 dX10_set_24 rfl ?_
        refine wp_cSE (as := [zI 3]) (rest := [zJ 0, zJ b]) (hp2 := (nx, h, [])) G mX10_mostOf lX10_136 sX10_mostOf dX10_set_25 rfl rfl (Nat.le_of_ble_eq_true rfl) (rmx_ok hR (by decide) (by decide) (by decide) (by decide)) (t_X10_mostOf (nx := nx) (v := 3) (by omega)) rfl ?_
        show Wp K 4 (Mx K h (fun rr nx' l' => nx' = nx ∧ ((¬ (∃ j : Nat, 3 = ((j : Nat) : Int) ∧ j < 5 ∧ leZ j ≤ b ∧ b ≤ moZ j) ∧ rr = some (zI (-2)) ∧ l' = []) ∨ (∃ j : Nat, 3 = ((j : Nat) : Int) ∧ j < 5 ∧ leZ j ≤ b ∧ b ≤ moZ j ∧ rr = some (zI (st j)) ∧ l' = [(72, oA 0 5 (fup st j b))]))) (0, 0)) (0, 0) 28 [(0, zR 64), (1, zI 3), (2, zI b)] [zI 100000, zJ 0, zJ b] (nx, h, [])
        refine wp_i2l G (by omega) dX10_set_28 ?_
        refine wp_cSE (as := [zJ b, zJ 0, zJ 100000]) (rest := []) (hp2 := (nx, h, [])) G mX10_in lX10_100 sX10_in dX10_set_29 rfl rfl (Nat.le_of_ble_eq_true rfl) (rmx_ok hR (by decide) (by decide) (by decide) (by decide)) (t_X10_in (nx := nx) (v := b) (lo := 0) (hi := 100000) (by omega) (by omega) (by omega)) rfl ?_
        refine wp_ifne_bt G dX10_set_32 (fun kq12 => ?_) (fun kq12 => ?_)
        · skip
          refine wp_aload_n G 0 dX10_set_38 rfl ?_
          refine wp_get G 8 cOk9 fX10_32 dX10_set_39 h64 rfl ?_
          refine wp_iload_n G 1 dX10_set_42 rfl ?_
          refine wp_iald (j := 3) G dX10_set_43 h72 rfl (by decide) (by decide) ?_
          have rrq7 := hN.r 3 (by decide)
          refine wp_istore_n (lv' := [(3, zI (st 3)), (0, zR 64), (1, zI 3), (2, zI b)]) G dX10_set_44 (by decide) rfl ?_
          refine wp_aload_n G 1 dX10_set_45 rfl ?_
          refine wp_get G 8 cOk9 fX10_32 dX10_set_46 h64 rfl ?_
          refine wp_iload_n G 2 dX10_set_49 rfl ?_
          refine wp_iload_n G 3 dX10_set_50 rfl ?_
          refine wp_iastE (j := 3) (hp2 := (nx, h, [(72, oA 0 5 (fup st 3 b))])) G dX10_set_51 h72 rfl (by decide) (by decide) rfl ?_
          refine wp_iload_n G 0 dX10_set_52 rfl ?_
          exact wp_ireturn G hr dX10_set_53 (by exact ⟨rfl, Or.inr (⟨3, rfl, by decide, by unfold leZ; simp; omega, by unfold moZ; simp; omega, rfl, rfl⟩)⟩)
        · skip
          refine wp_bipush G dX10_set_35 (by decide) ?_
          exact wp_ireturn G hr dX10_set_37 (by exact ⟨rfl, Or.inl (⟨by first | (rintro ⟨j, z1, z2, z3⟩; omega) | (rintro ⟨j, z1, z2, z3, z4⟩; have ej2 : j = (3) := (by omega); subst ej2; unfold leZ at z3; unfold moZ at z4; simp at z3 z4; omega), rfl, rfl⟩)⟩)
      · skip
        refine wp_lconst (z := 1) G dX10_set_19 (by decide) ?_
        refine wp_goto G dX10_set_20 ?_
        refine wp_iload_n G 1 dX10_set_24 rfl ?_
        refine wp_cSE (as := [zI 3]) (rest := [zJ 1, zJ b]) (hp2 := (nx, h, [])) G mX10_mostOf lX10_136 sX10_mostOf dX10_set_25 rfl rfl (Nat.le_of_ble_eq_true rfl) (rmx_ok hR (by decide) (by decide) (by decide) (by decide)) (t_X10_mostOf (nx := nx) (v := 3) (by omega)) rfl ?_
        show Wp K 4 (Mx K h (fun rr nx' l' => nx' = nx ∧ ((¬ (∃ j : Nat, 3 = ((j : Nat) : Int) ∧ j < 5 ∧ leZ j ≤ b ∧ b ≤ moZ j) ∧ rr = some (zI (-2)) ∧ l' = []) ∨ (∃ j : Nat, 3 = ((j : Nat) : Int) ∧ j < 5 ∧ leZ j ≤ b ∧ b ≤ moZ j ∧ rr = some (zI (st j)) ∧ l' = [(72, oA 0 5 (fup st j b))]))) (0, 0)) (0, 0) 28 [(0, zR 64), (1, zI 3), (2, zI b)] [zI 100000, zJ 1, zJ b] (nx, h, [])
        refine wp_i2l G (by omega) dX10_set_28 ?_
        refine wp_cSE (as := [zJ b, zJ 1, zJ 100000]) (rest := []) (hp2 := (nx, h, [])) G mX10_in lX10_100 sX10_in dX10_set_29 rfl rfl (Nat.le_of_ble_eq_true rfl) (rmx_ok hR (by decide) (by decide) (by decide) (by decide)) (t_X10_in (nx := nx) (v := b) (lo := 1) (hi := 100000) (by omega) (by omega) (by omega)) rfl ?_
        refine wp_ifne_bt G dX10_set_32 (fun kq13 => ?_) (fun kq13 => ?_)
        · skip
          refine wp_aload_n G 0 dX10_set_38 rfl ?_
          refine wp_get G 8 cOk9 fX10_32 dX10_set_39 h64 rfl ?_
          refine wp_iload_n G 1 dX10_set_42 rfl ?_
          refine wp_iald (j := 3) G dX10_set_43 h72 rfl (by decide) (by decide) ?_
          have rrq8 := hN.r 3 (by decide)
          refine wp_istore_n (lv' := [(3, zI (st 3)), (0, zR 64), (1, zI 3), (2, zI b)]) G dX10_set_44 (by decide) rfl ?_
          refine wp_aload_n G 1 dX10_set_45 rfl ?_
          refine wp_get G 8 cOk9 fX10_32 dX10_set_46 h64 rfl ?_
          refine wp_iload_n G 2 dX10_set_49 rfl ?_
          refine wp_iload_n G 3 dX10_set_50 rfl ?_
          refine wp_iastE (j := 3) (hp2 := (nx, h, [(72, oA 0 5 (fup st 3 b))])) G dX10_set_51 h72 rfl (by decide) (by decide) rfl ?_
          refine wp_iload_n G 0 dX10_set_52 rfl ?_
          exact wp_ireturn G hr dX10_set_53 (by exact ⟨rfl, Or.inr (⟨3, rfl, by decide, by unfold leZ; simp; omega, by unfold moZ; simp; omega, rfl, rfl⟩)⟩)
        · skip
          refine wp_bipush G dX10_set_35 (by decide) ?_
          exact wp_ireturn G hr dX10_set_37 (by exact ⟨rfl, Or.inl (⟨by first | (rintro ⟨j, z1, z2, z3⟩; omega) | (rintro ⟨j, z1, z2, z3, z4⟩; have ej2 : j = (3) := (by omega); subst ej2; unfold leZ at z3; unfold moZ at z4; simp at z3 z4; omega), rfl, rfl⟩)⟩)
    · skip
      refine wp_iload_n G 2 dX10_set_12 rfl ?_
      refine wp_i2l G (by omega) dX10_set_13 ?_
      refine wp_iload_n G 1 dX10_set_14 rfl ?_
      refine wp_iconst G dX10_set_15 ?_
      refine wp_icmp_ne G dX10_set_16 (by omega) (by omega) (fun kq14 => ?_) (fun kq14 => ?_)
      · skip
        refine wp_lconst (z := 0) G dX10_set_23 (by decide) ?_
        refine wp_iload_n G 1 dX10_set_24 rfl ?_
        refine wp_cSE (as := [zI 4]) (rest := [zJ 0, zJ b]) (hp2 := (nx, h, [])) G mX10_mostOf lX10_136 sX10_mostOf dX10_set_25 rfl rfl (Nat.le_of_ble_eq_true rfl) (rmx_ok hR (by decide) (by decide) (by decide) (by decide)) (t_X10_mostOf (nx := nx) (v := 4) (by omega)) rfl ?_
        show Wp K 4 (Mx K h (fun rr nx' l' => nx' = nx ∧ ((¬ (∃ j : Nat, 4 = ((j : Nat) : Int) ∧ j < 5 ∧ leZ j ≤ b ∧ b ≤ moZ j) ∧ rr = some (zI (-2)) ∧ l' = []) ∨ (∃ j : Nat, 4 = ((j : Nat) : Int) ∧ j < 5 ∧ leZ j ≤ b ∧ b ≤ moZ j ∧ rr = some (zI (st j)) ∧ l' = [(72, oA 0 5 (fup st j b))]))) (0, 0)) (0, 0) 28 [(0, zR 64), (1, zI 4), (2, zI b)] [zI 20, zJ 0, zJ b] (nx, h, [])
        refine wp_i2l G (by omega) dX10_set_28 ?_
        refine wp_cSE (as := [zJ b, zJ 0, zJ 20]) (rest := []) (hp2 := (nx, h, [])) G mX10_in lX10_100 sX10_in dX10_set_29 rfl rfl (Nat.le_of_ble_eq_true rfl) (rmx_ok hR (by decide) (by decide) (by decide) (by decide)) (t_X10_in (nx := nx) (v := b) (lo := 0) (hi := 20) (by omega) (by omega) (by omega)) rfl ?_
        refine wp_ifne_bt G dX10_set_32 (fun kq15 => ?_) (fun kq15 => ?_)
        · skip
          refine wp_aload_n G 0 dX10_set_38 rfl ?_
          refine wp_get G 8 cOk9 fX10_32 dX10_set_39 h64 rfl ?_
          refine wp_iload_n G 1 dX10_set_42 rfl ?_
          refine wp_iald (j := 4) G dX10_set_43 h72 rfl (by decide) (by decide) ?_
          have rrq9 := hN.r 4 (by decide)
          refine wp_istore_n (lv' := [(3, zI (st 4)), (0, zR 64), (1, zI 4), (2, zI b)]) G dX10_set_44 (by decide) rfl ?_
          refine wp_aload_n G 1 dX10_set_45 rfl ?_
          refine wp_get G 8 cOk9 fX10_32 dX10_set_46 h64 rfl ?_
          refine wp_iload_n G 2 dX10_set_49 rfl ?_
          refine wp_iload_n G 3 dX10_set_50 rfl ?_
          refine wp_iastE (j := 4) (hp2 := (nx, h, [(72, oA 0 5 (fup st 4 b))])) G dX10_set_51 h72 rfl (by decide) (by decide) rfl ?_
          refine wp_iload_n G 0 dX10_set_52 rfl ?_
          exact wp_ireturn G hr dX10_set_53 (by exact ⟨rfl, Or.inr (⟨4, rfl, by decide, by unfold leZ; simp; omega, by unfold moZ; simp; omega, rfl, rfl⟩)⟩)
        · skip
          refine wp_bipush G dX10_set_35 (by decide) ?_
          exact wp_ireturn G hr dX10_set_37 (by exact ⟨rfl, Or.inl (⟨by first | (rintro ⟨j, z1, z2, z3⟩; omega) | (rintro ⟨j, z1, z2, z3, z4⟩; have ej2 : j = (4) := (by omega); subst ej2; unfold leZ at z3; unfold moZ at z4; simp at z3 z4; omega), rfl, rfl⟩)⟩)
      · skip
        refine wp_lconst (z := 1) G dX10_set_19 (by decide) ?_
        refine wp_goto G dX10_set_20 ?_
        refine wp_iload_n G 1 dX10_set_24 rfl ?_
        refine wp_cSE (as := [zI 4]) (rest := [zJ 1, zJ b]) (hp2 := (nx, h, [])) G mX10_mostOf lX10_136 sX10_mostOf dX10_set_25 rfl rfl (Nat.le_of_ble_eq_true rfl) (rmx_ok hR (by decide) (by decide) (by decide) (by decide)) (t_X10_mostOf (nx := nx) (v := 4) (by omega)) rfl ?_
        show Wp K 4 (Mx K h (fun rr nx' l' => nx' = nx ∧ ((¬ (∃ j : Nat, 4 = ((j : Nat) : Int) ∧ j < 5 ∧ leZ j ≤ b ∧ b ≤ moZ j) ∧ rr = some (zI (-2)) ∧ l' = []) ∨ (∃ j : Nat, 4 = ((j : Nat) : Int) ∧ j < 5 ∧ leZ j ≤ b ∧ b ≤ moZ j ∧ rr = some (zI (st j)) ∧ l' = [(72, oA 0 5 (fup st j b))]))) (0, 0)) (0, 0) 28 [(0, zR 64), (1, zI 4), (2, zI b)] [zI 20, zJ 1, zJ b] (nx, h, [])
        refine wp_i2l G (by omega) dX10_set_28 ?_
        refine wp_cSE (as := [zJ b, zJ 1, zJ 20]) (rest := []) (hp2 := (nx, h, [])) G mX10_in lX10_100 sX10_in dX10_set_29 rfl rfl (Nat.le_of_ble_eq_true rfl) (rmx_ok hR (by decide) (by decide) (by decide) (by decide)) (t_X10_in (nx := nx) (v := b) (lo := 1) (hi := 20) (by omega) (by omega) (by omega)) rfl ?_
        refine wp_ifne_bt G dX10_set_32 (fun kq16 => ?_) (fun kq16 => ?_)
        · skip
          refine wp_aload_n G 0 dX10_set_38 rfl ?_
          refine wp_get G 8 cOk9 fX10_32 dX10_set_39 h64 rfl ?_
          refine wp_iload_n G 1 dX10_set_42 rfl ?_
          refine wp_iald (j := 4) G dX10_set_43 h72 rfl (by decide) (by decide) ?_
          have rrq10 := hN.r 4 (by decide)
          refine wp_istore_n (lv' := [(3, zI (st 4)), (0, zR 64), (1, zI 4), (2, zI b)]) G dX10_set_44 (by decide) rfl ?_
          refine wp_aload_n G 1 dX10_set_45 rfl ?_
          refine wp_get G 8 cOk9 fX10_32 dX10_set_46 h64 rfl ?_
          refine wp_iload_n G 2 dX10_set_49 rfl ?_
          refine wp_iload_n G 3 dX10_set_50 rfl ?_
          refine wp_iastE (j := 4) (hp2 := (nx, h, [(72, oA 0 5 (fup st 4 b))])) G dX10_set_51 h72 rfl (by decide) (by decide) rfl ?_
          refine wp_iload_n G 0 dX10_set_52 rfl ?_
          exact wp_ireturn G hr dX10_set_53 (by exact ⟨rfl, Or.inr (⟨4, rfl, by decide, by unfold leZ; simp; omega, by unfold moZ; simp; omega, rfl, rfl⟩)⟩)
        · skip
          refine wp_bipush G dX10_set_35 (by decide) ?_
          exact wp_ireturn G hr dX10_set_37 (by exact ⟨rfl, Or.inl (⟨by first | (rintro ⟨j, z1, z2, z3⟩; omega) | (rintro ⟨j, z1, z2, z3, z4⟩; have ej2 : j = (4) := (by omega); subst ej2; unfold leZ at z3; unfold moZ at z4; simp at z3 z4; omega), rfl, rfl⟩)⟩)

set_option maxRecDepth 100000 in
set_option maxHeartbeats 4000000 in
theorem t_X9_few {nx : Nat} {h : Nat → Option PC} {fc : Nat} {a : Int} {m : Int} {w : Int} {t : Int} {p : Int} (h0 : h 0 = some (oO 8 [zR 1, zR 2, zR 11, zR 34, zR 36, zR 42, zR 44, zI ((fc : Nat) : Int), zR 45, zR 48])) (ri_a : r32 a) (ri_m : r32 m) (ri_w : r32 w) (ri_t : r32 t) (ri_p : r32 p) : Cx 2 (0, 0) yX9_few cX9_few 6 (some .long) [zR 0, zI a, zI m, zI w, zI t, zI p] nx h (Rt (zJ (ansF a m w t p)) nx []) := by
  refine cx_of pnX9_few (Nat.le_of_ble_eq_true rfl) ?_
  intro K G hr hnm hR
  show Wp K 6 (Mx K h (Rt (zJ (ansF a m w t p)) nx []) (0, 0)) (0, 0) 0 [(0, zR 0), (1, zI a), (2, zI m), (3, zI w), (4, zI t), (5, zI p)] [] (nx, h, [])
  refine wp_iload_n G 1 dX9_few_0 rfl ?_
  refine wp_iconst G dX9_few_1 ?_
  refine wp_bipush G dX9_few_2 (by decide) ?_
  refine wp_cSE (as := [zI a, zI 1, zI 8]) (rest := []) (hp2 := (nx, h, [])) G mX9_within lX9_127 sX9_within dX9_few_4 rfl rfl (Nat.le_of_ble_eq_true rfl) (rmx_ok hR (by decide) (by decide) (by decide) (by decide)) (t_X9_within (nx := nx) (v := a) (lo := 1) (hi := 8) (by omega) (by omega) (by omega)) rfl ?_
  refine wp_ifeq_bt G dX9_few_7 (fun kq1 => ?_) (fun kq1 => ?_)
  · skip
    refine wp_ldc2 (z := -1000000000000000002) G kX9_169 dX9_few_41 ?_
    exact wp_lreturn G hr dX9_few_44 ⟨by rw [ansF, if_pos (by omega)], rfl, by rfl⟩
  · skip
    refine wp_iload G 4 dX9_few_10 rfl ?_
    refine wp_iconst G dX9_few_12 ?_
    refine wp_bipush G dX9_few_13 (by decide) ?_
    refine wp_cSE (as := [zI t, zI 2, zI 100]) (rest := []) (hp2 := (nx, h, [])) G mX9_within lX9_127 sX9_within dX9_few_15 rfl rfl (Nat.le_of_ble_eq_true rfl) (rmx_ok hR (by decide) (by decide) (by decide) (by decide)) (t_X9_within (nx := nx) (v := t) (lo := 2) (hi := 100) (by omega) (by omega) (by omega)) rfl ?_
    refine wp_ifeq_bt G dX9_few_18 (fun kq2 => ?_) (fun kq2 => ?_)
    · skip
      refine wp_ldc2 (z := -1000000000000000002) G kX9_169 dX9_few_41 ?_
      exact wp_lreturn G hr dX9_few_44 ⟨by rw [ansF, if_pos (by omega)], rfl, by rfl⟩
    · skip
      refine wp_iload_n G 3 dX9_few_21 rfl ?_
      refine wp_iconst G dX9_few_22 ?_
      refine wp_iload G 4 dX9_few_23 rfl ?_
      refine wp_iconst G dX9_few_25 ?_
      refine wp_isub G dX9_few_26 ?_
      refine wp_cSE (as := [zI w, zI 1, zI (t - 1)]) (rest := []) (hp2 := (nx, h, [])) G mX9_within lX9_127 sX9_within dX9_few_27 rfl rfl (Nat.le_of_ble_eq_true rfl) (rmx_ok hR (by decide) (by decide) (by decide) (by decide)) (t_X9_within (nx := nx) (v := w) (lo := 1) (hi := (t - 1)) (by omega) (by omega) (by omega)) rfl ?_
      refine wp_ifeq_bt G dX9_few_30 (fun kq3 => ?_) (fun kq3 => ?_)
      · skip
        refine wp_ldc2 (z := -1000000000000000002) G kX9_169 dX9_few_41 ?_
        exact wp_lreturn G hr dX9_few_44 ⟨by rw [ansF, if_pos (by omega)], rfl, by rfl⟩
      · skip
        refine wp_iload G 5 dX9_few_33 rfl ?_
        refine wp_cSE (as := [zI p]) (rest := []) (hp2 := (nx, h, [])) G mX9_isPart lX9_166 sX9_isPart dX9_few_35 rfl rfl (Nat.le_of_ble_eq_true rfl) (rmx_ok hR (by decide) (by decide) (by decide) (by decide)) (t_X9_isPart (nx := nx) (v := p) (by omega)) rfl ?_
        refine wp_ifne_bt G dX9_few_38 (fun kq4 => ?_) (fun kq4 => ?_)
        · skip
          obtain ⟨aa, e_aa⟩ := Int.eq_ofNat_of_zero_le (show 0 ≤ a from (by omega))
          subst e_aa
          refine wp_iload_n G 1 dX9_few_45 rfl ?_
          have hfb := few_b (a := aa) (m := m) (w := w) (t := t) (by omega) (by omega) (by omega)
          have hpb := pow_b (b := t) (B := 100) (by omega) (by omega) aa
          have hp8 : (100 : Nat) ^ aa ≤ 100 ^ 8 := Nat.pow_le_pow_right (by decide) (by omega)
          have hpp : 0 < t ^ aa := Int.pow_pos (by omega)
          refine wp_iload_n G 2 dX9_few_46 rfl ?_
          refine wp_iload_n G 3 dX9_few_47 rfl ?_
          refine wp_iload G 4 dX9_few_48 rfl ?_
          refine wp_cSE (as := [zI ((aa : Nat) : Int), zI m, zI w, zI t]) (rest := []) (hp2 := (nx, h, [])) G mX5_waysForFew lX9_192 sX5_waysForFew dX9_few_50 rfl rfl (Nat.le_of_ble_eq_true rfl) (rmx_ok hR (by decide) (by decide) (by decide) (by decide)) (t_X5_waysForFew (nx := nx) (a := aa) (n := m) (w := w) (t := t) (by omega) ri_m (by omega) (by omega)) rfl ?_
          refine wp_iload G 4 dX9_few_53 rfl ?_
          refine wp_iload_n G 1 dX9_few_55 rfl ?_
          refine wp_cSE (as := [zI t, zI ((aa : Nat) : Int)]) (rest := [zJ (sumZ (fun i => ifZ (((i : Nat) : Int) ≤ m) (chI aa ((i : Nat) : Int) * w ^ i * (t - w) ^ (aa - i)) 0) (aa + 1))]) (hp2 := (nx, h, [])) G mX5_power lX9_195 sX5_power dX9_few_56 rfl rfl (Nat.le_of_ble_eq_true rfl) (rmx_ok hR (by decide) (by decide) (by decide) (by decide)) (t_X5_power (nx := nx) (b := t) (k := aa) (by omega) (by omega)) rfl ?_
          refine wp_iload G 5 dX9_few_59 rfl ?_
          rw [show (sumZ (fun i => ifZ (((i : Nat) : Int) ≤ m) (chI aa ((i : Nat) : Int) * w ^ i * (t - w) ^ (aa - i)) 0) (aa + 1) : Int) = (((sumZ (fun i => ifZ (((i : Nat) : Int) ≤ m) (chI aa ((i : Nat) : Int) * w ^ i * (t - w) ^ (aa - i)) 0) (aa + 1)).toNat : Nat) : Int) by omega]
          rw [show (t ^ aa : Int) = (((t ^ aa).toNat : Nat) : Int) by omega]
          refine wp_cSE (as := [zJ ((((((sumZ (fun i => ifZ (((i : Nat) : Int) ≤ m) (chI aa ((i : Nat) : Int) * w ^ i * (t - w) ^ (aa - i)) 0) (aa + 1)).toNat : Nat) : Int)).toNat : Nat) : Int), zJ ((((((t ^ aa).toNat : Nat) : Int)).toNat : Nat) : Int), zI p]) (rest := []) (hp2 := (nx, h, [])) G mX5_partOf lX9_178 sX5_partOf dX9_few_61 rfl rfl (Nat.le_of_ble_eq_true rfl) (rmx_ok hR (by decide) (by decide) (by decide) (by decide)) (t_X5_partOf (nx := nx) (a := (((((sumZ (fun i => ifZ (((i : Nat) : Int) ≤ m) (chI aa ((i : Nat) : Int) * w ^ i * (t - w) ^ (aa - i)) 0) (aa + 1)).toNat : Nat) : Int)).toNat)) (b := (((((t ^ aa).toNat : Nat) : Int)).toNat)) (p := p) (by omega) (by omega) (by omega) ri_p) rfl ?_
          exact wp_lreturn G hr dX9_few_64 ⟨by rw [ansF, if_neg (by omega)]; simp only [Int.toNat_natCast], rfl, by rfl⟩
        · skip
          refine wp_ldc2 (z := -1000000000000000002) G kX9_169 dX9_few_41 ?_
          exact wp_lreturn G hr dX9_few_44 ⟨by rw [ansF, if_pos (by omega)], rfl, by rfl⟩

set_option maxRecDepth 100000 in
set_option maxHeartbeats 4000000 in
theorem t_X10_few {nx : Nat} {h : Nat → Option PC} {fc : Nat} {a : Int} {m : Int} {w : Int} {t : Int} {p : Int} (ri_a : r32 a) (ri_m : r32 m) (ri_w : r32 w) (ri_t : r32 t) (ri_p : r32 p) : Cx 2 (0, 0) yX10_few cX10_few 9 (some .long) [zR 64, zI a, zI m, zI w, zI t, zI p] nx h (Rt (zJ (ansF a m w t p)) nx []) := by
  refine cx_of pnX10_few (Nat.le_of_ble_eq_true rfl) ?_
  intro K G hr hnm hR
  show Wp K 9 (Mx K h (Rt (zJ (ansF a m w t p)) nx []) (0, 0)) (0, 0) 0 [(0, zR 64), (1, zI a), (2, zI m), (3, zI w), (4, zI t), (5, zI p)] [] (nx, h, [])
  refine wp_iload_n G 1 dX10_few_0 rfl ?_
  refine wp_i2l G (by omega) dX10_few_1 ?_
  refine wp_lconst (z := 1) G dX10_few_2 (by decide) ?_
  refine wp_ldc2 (z := 8) G kX10_196 dX10_few_3 ?_
  refine wp_cSE (as := [zJ a, zJ 1, zJ 8]) (rest := []) (hp2 := (nx, h, [])) G mX10_in lX10_100 sX10_in dX10_few_6 rfl rfl (Nat.le_of_ble_eq_true rfl) (rmx_ok hR (by decide) (by decide) (by decide) (by decide)) (t_X10_in (nx := nx) (v := a) (lo := 1) (hi := 8) (by omega) (by omega) (by omega)) rfl ?_
  refine wp_ifeq_bt G dX10_few_9 (fun kq1 => ?_) (fun kq1 => ?_)
  · skip
    refine wp_ldc2 (z := -1000000000000000002) G kX10_184 dX10_few_49 ?_
    exact wp_lreturn G hr dX10_few_52 ⟨by rw [ansF, if_pos (by omega)], rfl, by rfl⟩
  · skip
    refine wp_iload G 4 dX10_few_12 rfl ?_
    refine wp_i2l G (by omega) dX10_few_14 ?_
    refine wp_ldc2 (z := 2) G kX10_110 dX10_few_15 ?_
    refine wp_ldc2 (z := 100) G kX10_198 dX10_few_18 ?_
    refine wp_cSE (as := [zJ t, zJ 2, zJ 100]) (rest := []) (hp2 := (nx, h, [])) G mX10_in lX10_100 sX10_in dX10_few_21 rfl rfl (Nat.le_of_ble_eq_true rfl) (rmx_ok hR (by decide) (by decide) (by decide) (by decide)) (t_X10_in (nx := nx) (v := t) (lo := 2) (hi := 100) (by omega) (by omega) (by omega)) rfl ?_
    refine wp_ifeq_bt G dX10_few_24 (fun kq2 => ?_) (fun kq2 => ?_)
    · skip
      refine wp_ldc2 (z := -1000000000000000002) G kX10_184 dX10_few_49 ?_
      exact wp_lreturn G hr dX10_few_52 ⟨by rw [ansF, if_pos (by omega)], rfl, by rfl⟩
    · skip
      refine wp_iload_n G 3 dX10_few_27 rfl ?_
      refine wp_i2l G (by omega) dX10_few_28 ?_
      refine wp_lconst (z := 1) G dX10_few_29 (by decide) ?_
      refine wp_iload G 4 dX10_few_30 rfl ?_
      refine wp_i2l G (by omega) dX10_few_32 ?_
      refine wp_lconst (z := 1) G dX10_few_33 (by decide) ?_
      refine wp_lsub G dX10_few_34 ?_
      refine wp_cSE (as := [zJ w, zJ 1, zJ (t - 1)]) (rest := []) (hp2 := (nx, h, [])) G mX10_in lX10_100 sX10_in dX10_few_35 rfl rfl (Nat.le_of_ble_eq_true rfl) (rmx_ok hR (by decide) (by decide) (by decide) (by decide)) (t_X10_in (nx := nx) (v := w) (lo := 1) (hi := (t - 1)) (by omega) (by omega) (by omega)) rfl ?_
      refine wp_ifeq_bt G dX10_few_38 (fun kq3 => ?_) (fun kq3 => ?_)
      · skip
        refine wp_ldc2 (z := -1000000000000000002) G kX10_184 dX10_few_49 ?_
        exact wp_lreturn G hr dX10_few_52 ⟨by rw [ansF, if_pos (by omega)], rfl, by rfl⟩
      · skip
        refine wp_iload G 5 dX10_few_41 rfl ?_
        refine wp_cSE (as := [zI p]) (rest := []) (hp2 := (nx, h, [])) G mX10_isPart lX10_181 sX10_isPart dX10_few_43 rfl rfl (Nat.le_of_ble_eq_true rfl) (rmx_ok hR (by decide) (by decide) (by decide) (by decide)) (t_X10_isPart (nx := nx) (v := p) (by omega)) rfl ?_
        refine wp_ifne_bt G dX10_few_46 (fun kq4 => ?_) (fun kq4 => ?_)
        · skip
          obtain ⟨aa, e_aa⟩ := Int.eq_ofNat_of_zero_le (show 0 ≤ a from (by omega))
          subst e_aa
          refine wp_lconst (z := 0) G dX10_few_53 (by decide) ?_
          refine wp_lstore (lv' := [(6, zJ 0), (0, zR 64), (1, zI ((aa : Nat) : Int)), (2, zI m), (3, zI w), (4, zI t), (5, zI p)]) G dX10_few_54 (by decide) rfl ?_
          refine wp_iconst G dX10_few_56 ?_
          refine wp_istore (lv' := [(8, zI 0), (6, zJ 0), (0, zR 64), (1, zI ((aa : Nat) : Int)), (2, zI m), (3, zI w), (4, zI t), (5, zI p)]) G dX10_few_57 (by decide) rfl ?_
          refine wp_lv [2, 3, 4, 5, 6, 7, 1, 0] rfl ?_
          suffices lp59 : ∀ (fu : Nat) (k : Nat) (v6 : Int) (v8 : Int), aa + 1 - k < fu → (v6 = sumZ (fun i => ifZ (((i : Nat) : Int) ≤ m) (chI aa ((i : Nat) : Int) * w ^ i * (t - w) ^ (aa - i)) 0) k) → (v8 = ((k : Nat) : Int)) → (k ≤ aa + 1) → Wp K 9 (Mx K h (Rt (zJ (ansF ((aa : Nat) : Int) m w t p)) nx []) (0, 0)) (0, 0) 59 [(0, zR 64), (1, zI ((aa : Nat) : Int)), (2, zI m), (3, zI w), (4, zI t), (5, zI p), (6, zJ v6), (8, zI v8)] [] (nx, h, []) from lp59 _ 0 0 0 (Nat.lt_succ_self _) (by rfl) (by omega) (by omega)
          intro fu
          induction fu with
          | zero => intro k v6 v8 hm; exact absurd hm (Nat.not_lt_zero _)
          | succ fu ih59 =>
            intro k v6 v8 hm59 e6 e8 hi0
            subst e6
            subst e8
            have hfb := few_b (a := aa) (m := m) (w := w) (t := t) (by omega) (by omega) (by omega)
            have hpb := pow_b (b := t) (B := 100) (by omega) (by omega) aa
            have hp8 : (100 : Nat) ^ aa ≤ 100 ^ 8 := Nat.pow_le_pow_right (by decide) (by omega)
            have hpp : 0 < t ^ aa := Int.pow_pos (by omega)
            refine wp_iload G 7 dX10_few_59 rfl ?_
            refine wp_iload_n G 1 dX10_few_61 rfl ?_
            refine wp_icmp_gt G dX10_few_62 (by omega) (by omega) (fun kq5 => ?_) (fun kq5 => ?_)
            · skip
              have hef : sumZ (fun i => ifZ (((i : Nat) : Int) ≤ m) (chI aa ((i : Nat) : Int) * w ^ i * (t - w) ^ (aa - i)) 0) k = sumZ (fun i => ifZ (((i : Nat) : Int) ≤ m) (chI aa ((i : Nat) : Int) * w ^ i * (t - w) ^ (aa - i)) 0) (aa + 1) := few_end (by omega) (by omega)
              rw [hef]
              refine wp_lload G 6 dX10_few_109 rfl ?_
              refine wp_iload G 4 dX10_few_111 rfl ?_
              refine wp_i2l G (by omega) dX10_few_113 ?_
              refine wp_iload_n G 1 dX10_few_114 rfl ?_
              refine wp_cSE (as := [zJ t, zI ((aa : Nat) : Int)]) (rest := [zJ (sumZ (fun i => ifZ (((i : Nat) : Int) ≤ m) (chI aa ((i : Nat) : Int) * w ^ i * (t - w) ^ (aa - i)) 0) (aa + 1))]) (hp2 := (nx, h, [])) G mX10_power lX10_200 sX10_power dX10_few_115 rfl rfl (Nat.le_of_ble_eq_true rfl) (rmx_ok hR (by decide) (by decide) (by decide) (by decide)) (t_X10_power (nx := nx) (b := t) (k := aa) (by omega)) rfl ?_
              refine wp_iload G 5 dX10_few_118 rfl ?_
              rw [show (sumZ (fun i => ifZ (((i : Nat) : Int) ≤ m) (chI aa ((i : Nat) : Int) * w ^ i * (t - w) ^ (aa - i)) 0) (aa + 1) : Int) = (((sumZ (fun i => ifZ (((i : Nat) : Int) ≤ m) (chI aa ((i : Nat) : Int) * w ^ i * (t - w) ^ (aa - i)) 0) (aa + 1)).toNat : Nat) : Int) by omega]
              rw [show (t ^ aa : Int) = (((t ^ aa).toNat : Nat) : Int) by omega]
              refine wp_cSE (as := [zJ ((((((sumZ (fun i => ifZ (((i : Nat) : Int) ≤ m) (chI aa ((i : Nat) : Int) * w ^ i * (t - w) ^ (aa - i)) 0) (aa + 1)).toNat : Nat) : Int)).toNat : Nat) : Int), zJ ((((((t ^ aa).toNat : Nat) : Int)).toNat : Nat) : Int), zI p]) (rest := []) (hp2 := (nx, h, [])) G mX10_lowest lX10_188 sX10_lowest dX10_few_120 rfl rfl (Nat.le_of_ble_eq_true rfl) (rmx_ok hR (by decide) (by decide) (by decide) (by decide)) (t_X10_lowest (nx := nx) (a := (((((sumZ (fun i => ifZ (((i : Nat) : Int) ≤ m) (chI aa ((i : Nat) : Int) * w ^ i * (t - w) ^ (aa - i)) 0) (aa + 1)).toNat : Nat) : Int)).toNat)) (b := (((((t ^ aa).toNat : Nat) : Int)).toNat)) (p := p) (by omega) (by omega) (by omega) ri_p) rfl ?_
              exact wp_lreturn G hr dX10_few_123 ⟨by rw [ansF, if_neg (by omega)]; simp only [Int.toNat_natCast], rfl, by rfl⟩
            · skip
              refine wp_iload G 7 dX10_few_65 rfl ?_
              refine wp_iload_n G 2 dX10_few_67 rfl ?_
              refine wp_icmp_gt G dX10_few_68 (by omega) (by omega) (fun kq6 => ?_) (fun kq6 => ?_)
              · skip
                have hef : sumZ (fun i => ifZ (((i : Nat) : Int) ≤ m) (chI aa ((i : Nat) : Int) * w ^ i * (t - w) ^ (aa - i)) 0) k = sumZ (fun i => ifZ (((i : Nat) : Int) ≤ m) (chI aa ((i : Nat) : Int) * w ^ i * (t - w) ^ (aa - i)) 0) (aa + 1) := few_end (by omega) (by omega)
                rw [hef]
                refine wp_lload G 6 dX10_few_109 rfl ?_
                refine wp_iload G 4 dX10_few_111 rfl ?_
                refine wp_i2l G (by omega) dX10_few_113 ?_
                refine wp_iload_n G 1 dX10_few_114 rfl ?_
                refine wp_cSE (as := [zJ t, zI ((aa : Nat) : Int)]) (rest := [zJ (sumZ (fun i => ifZ (((i : Nat) : Int) ≤ m) (chI aa ((i : Nat) : Int) * w ^ i * (t - w) ^ (aa - i)) 0) (aa + 1))]) (hp2 := (nx, h, [])) G mX10_power lX10_200 sX10_power dX10_few_115 rfl rfl (Nat.le_of_ble_eq_true rfl) (rmx_ok hR (by decide) (by decide) (by decide) (by decide)) (t_X10_power (nx := nx) (b := t) (k := aa) (by omega)) rfl ?_
                refine wp_iload G 5 dX10_few_118 rfl ?_
                rw [show (sumZ (fun i => ifZ (((i : Nat) : Int) ≤ m) (chI aa ((i : Nat) : Int) * w ^ i * (t - w) ^ (aa - i)) 0) (aa + 1) : Int) = (((sumZ (fun i => ifZ (((i : Nat) : Int) ≤ m) (chI aa ((i : Nat) : Int) * w ^ i * (t - w) ^ (aa - i)) 0) (aa + 1)).toNat : Nat) : Int) by omega]
                rw [show (t ^ aa : Int) = (((t ^ aa).toNat : Nat) : Int) by omega]
                refine wp_cSE (as := [zJ ((((((sumZ (fun i => ifZ (((i : Nat) : Int) ≤ m) (chI aa ((i : Nat) : Int) * w ^ i * (t - w) ^ (aa - i)) 0) (aa + 1)).toNat : Nat) : Int)).toNat : Nat) : Int), zJ ((((((t ^ aa).toNat : Nat) : Int)).toNat : Nat) : Int), zI p]) (rest := []) (hp2 := (nx, h, [])) G mX10_lowest lX10_188 sX10_lowest dX10_few_120 rfl rfl (Nat.le_of_ble_eq_true rfl) (rmx_ok hR (by decide) (by decide) (by decide) (by decide)) (t_X10_lowest (nx := nx) (a := (((((sumZ (fun i => ifZ (((i : Nat) : Int) ≤ m) (chI aa ((i : Nat) : Int) * w ^ i * (t - w) ^ (aa - i)) 0) (aa + 1)).toNat : Nat) : Int)).toNat)) (b := (((((t ^ aa).toNat : Nat) : Int)).toNat)) (p := p) (by omega) (by omega) (by omega) ri_p) rfl ?_
                exact wp_lreturn G hr dX10_few_123 ⟨by rw [ansF, if_neg (by omega)]; simp only [Int.toNat_natCast], rfl, by rfl⟩
              · skip
                refine wp_lload G 6 dX10_few_71 rfl ?_
                refine wp_iload_n G 1 dX10_few_73 rfl ?_
                refine wp_iload G 7 dX10_few_74 rfl ?_
                refine wp_cSE (as := [zI ((aa : Nat) : Int), zI ((k : Nat) : Int)]) (rest := [zJ (sumZ (fun i => ifZ (((i : Nat) : Int) ≤ m) (chI aa ((i : Nat) : Int) * w ^ i * (t - w) ^ (aa - i)) 0) k)]) (hp2 := (nx, h, [])) G mX10_choose lX10_192 sX10_choose dX10_few_76 rfl rfl (Nat.le_of_ble_eq_true rfl) (rmx_ok hR (by decide) (by decide) (by decide) (by decide)) (t_X10_choose (nx := nx) (n := aa) (k := ((k : Nat) : Int)) (by omega) (by omega)) rfl ?_
                refine wp_iload_n G 3 dX10_few_79 rfl ?_
                refine wp_i2l G (by omega) dX10_few_80 ?_
                refine wp_iload G 7 dX10_few_81 rfl ?_
                refine wp_cSE (as := [zJ w, zI ((k : Nat) : Int)]) (rest := [zJ (chI aa ((k : Nat) : Int)), zJ (sumZ (fun i => ifZ (((i : Nat) : Int) ≤ m) (chI aa ((i : Nat) : Int) * w ^ i * (t - w) ^ (aa - i)) 0) k)]) (hp2 := (nx, h, [])) G mX10_power lX10_200 sX10_power dX10_few_83 rfl rfl (Nat.le_of_ble_eq_true rfl) (rmx_ok hR (by decide) (by decide) (by decide) (by decide)) (t_X10_power (nx := nx) (b := w) (k := k) (by omega)) rfl ?_
                refine wp_lmul G dX10_few_86 ?_
                refine wp_iload G 4 dX10_few_87 rfl ?_
                refine wp_iload_n G 3 dX10_few_89 rfl ?_
                refine wp_isub G dX10_few_90 ?_
                refine wp_i2l G (by omega) dX10_few_91 ?_
                refine wp_iload_n G 1 dX10_few_92 rfl ?_
                refine wp_iload G 7 dX10_few_93 rfl ?_
                refine wp_isub G dX10_few_95 ?_
                rw [show ((((aa : Nat) : Int) - ((k : Nat) : Int)) : Int) = ((aa - k : Nat) : Int) by omega]
                refine wp_cSE (as := [zJ (t - w), zI ((aa - k : Nat) : Int)]) (rest := [zJ (chI aa ((k : Nat) : Int) * w ^ k), zJ (sumZ (fun i => ifZ (((i : Nat) : Int) ≤ m) (chI aa ((i : Nat) : Int) * w ^ i * (t - w) ^ (aa - i)) 0) k)]) (hp2 := (nx, h, [])) G mX10_power lX10_200 sX10_power dX10_few_96 rfl rfl (Nat.le_of_ble_eq_true rfl) (rmx_ok hR (by decide) (by decide) (by decide) (by decide)) (t_X10_power (nx := nx) (b := (t - w)) (k := (aa - k)) (by omega)) rfl ?_
                refine wp_lmul G dX10_few_99 ?_
                refine wp_ladd G dX10_few_100 ?_
                refine wp_lstore (lv' := [(6, zJ (sumZ (fun i => ifZ (((i : Nat) : Int) ≤ m) (chI aa ((i : Nat) : Int) * w ^ i * (t - w) ^ (aa - i)) 0) k + ((chI aa ((k : Nat) : Int) * w ^ k) * (t - w) ^ (aa - k)))), (0, zR 64), (1, zI ((aa : Nat) : Int)), (2, zI m), (3, zI w), (4, zI t), (5, zI p), (8, zI ((k : Nat) : Int))]) G dX10_few_101 (by decide) rfl ?_
                refine wp_iinc (lv' := [(8, zI (((k : Nat) : Int) + 1)), (6, zJ (sumZ (fun i => ifZ (((i : Nat) : Int) ≤ m) (chI aa ((i : Nat) : Int) * w ^ i * (t - w) ^ (aa - i)) 0) k + ((chI aa ((k : Nat) : Int) * w ^ k) * (t - w) ^ (aa - k)))), (0, zR 64), (1, zI ((aa : Nat) : Int)), (2, zI m), (3, zI w), (4, zI t), (5, zI p)]) G 7 dX10_few_103 rfl (by decide) rfl ?_
                refine wp_goto G dX10_few_106 ?_
                refine wp_lv [2, 3, 4, 5, 6, 7, 1, 0] rfl ?_
                exact ih59 (k + 1) (sumZ (fun i => ifZ (((i : Nat) : Int) ≤ m) (chI aa ((i : Nat) : Int) * w ^ i * (t - w) ^ (aa - i)) 0) k + ((chI aa ((k : Nat) : Int) * w ^ k) * (t - w) ^ (aa - k))) (((k : Nat) : Int) + 1) (by omega) (by rw [sumZ, ifZ_y (by omega)]) (by omega) (by omega)
        · skip
          refine wp_ldc2 (z := -1000000000000000002) G kX10_184 dX10_few_49 ?_
          exact wp_lreturn G hr dX10_few_52 ⟨by rw [ansF, if_pos (by omega)], rfl, by rfl⟩

