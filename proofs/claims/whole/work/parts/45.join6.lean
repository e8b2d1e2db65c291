theorem lk_mid {nx : Nat} {h : Nat → Option PC} {l : List (Nat × PC)} {r : Nat} {c : PC} (h15 : 15 ≤ r) (h28 : r < 28) (hl : l.all (fun x => decide (x.1 < 15 ∨ 28 ≤ x.1)) = true) (hh : h r = some c) : hget (nx, h, l) r = some c := by
  show hlk l h r = some c
  induction l with
  | nil => exact hh
  | cons x l ih =>
    simp only [List.all_cons, Bool.and_eq_true, decide_eq_true_eq] at hl
    rw [hlk, if_neg (by omega)]
    exact ih hl.2
/-- the i-th quake of a list -/
def nthL (q : Nat → Nat → Int) (a : Int) : Nat → Nat → Nat
  | 0, _ => 0
  | k + 1, i => if q 0 k = a ∧ cN q a k = i then k else nthL q a k i
theorem nth_ok {q : Nat → Nat → Int} {a : Int} {i : Nat} : ∀ k, i < cN q a k → nthL q a k i < k ∧ q 0 (nthL q a k i) = a ∧ cN q a (nthL q a k i) = i
  | 0, h => absurd h (Nat.not_lt_zero _)
  | k + 1, h => by
    by_cases c : q 0 k = a ∧ cN q a k = i
    · rw [nthL, if_pos c]; exact ⟨by omega, c.1, c.2⟩
    · rw [nthL, if_neg c]
      have h2 : i < cN q a k := by
        by_cases d : q 0 k = a
        · rw [cN_y d] at h
          have : cN q a k ≠ i := fun z => c ⟨d, z⟩
          omega
        · rw [cN_n d] at h; exact h
      have := nth_ok k h2
      exact ⟨by omega, this.2⟩
theorem nth_A {q : Nat → Nat → Int} {a : Int} {n : Nat} {R : Nat → Int} (hR : ∀ j, j < n → q 0 j = a → cN q a j < 12 → R (cN q a j) = ((j : Nat) : Int)) (h12 : cN q a n ≤ 12) : ∀ i, i < cN q a n → R i = ((nthL q a n i : Nat) : Int) ∧ nthL q a n i < n := by
  intro i hi
  have h := nth_ok n hi
  have e := hR (nthL q a n i) h.1 h.2.1 (by rw [h.2.2]; omega)
  rw [h.2.2] at e
  exact ⟨e, h.1⟩
theorem hp_0 {C : Nat → Nat → Int} {rw_ pt cl : Nat} {U V : Nat → Int} (hC : HC C rw_ pt cl) (hU : ∀ t, t < rw_ + 1 → U t = 0) (hV : ∀ t, t < cl + 1 → V t = 0) : HP C rw_ cl U V (fun _ => 0) := by
  refine ⟨?_, ?_, ?_, ?_, ?_⟩
  · intro i j h1 h2 h3 h4
    rw [hU i (by omega), hV j (by omega)]
    have := hC.c0 i j h1 h2 h3 h4
    omega
  · intro j _ _ h; exact absurd rfl h
  · intro j _ h2; rw [hV j (by omega)]; exact Int.le_refl _
  · intro j _ h2 _; exact hV j (by omega)
  · intro i _ h2; rw [hU i (by omega)]; exact Int.le_refl _
theorem hn_0 {cl : Nat} : HN cl 0 (fun _ => 0) := ⟨fun _ _ _ => Nat.le_refl _, fun _ _ _ _ _ _ _ h => absurd rfl h, fun i h1 h2 => by omega⟩
theorem hp_up {C : Nat → Nat → Int} {rw_ cl x : Nat} {U V : Nat → Int} {m : Nat → Nat} (h : HP C rw_ cl U V m) : HP C rw_ cl U V (fup m 0 x) := by
  have e : ∀ j, 1 ≤ j → fup m 0 x j = m j := fun j hj => fup_ne _ _ (by omega)
  refine ⟨h.fe, ?_, h.vl, ?_, h.u0⟩
  · intro j h1 h2 h3
    rw [e j h1] at h3 ⊢
    exact h.ti j h1 h2 h3
  · intro j h1 h2 h3
    rw [e j h1] at h3
    exact h.v0 j h1 h2 h3
theorem hn_up {cl t x : Nat} {m : Nat → Nat} (h : HN cl t m) : HN cl t (fup m 0 x) := by
  have e : ∀ j, 1 ≤ j → fup m 0 x j = m j := fun j hj => fup_ne _ _ (by omega)
  refine ⟨?_, ?_, ?_⟩
  · intro j h1 h2; rw [e j h1]; exact h.le j h1 h2
  · intro j k h1 h2 h3 h4; rw [e j h1, e k h3]; exact h.ij j k h1 h2 h3 h4
  · intro i h1 h2
    obtain ⟨j, a, b, c⟩ := h.su i h1 h2
    exact ⟨j, a, b, by rw [e j a]; exact c⟩
theorem dg_11 {i : Nat} (h : 1 ≤ i) : 0 < dgP i ∧ dgP i ≤ 1792160394037 := by
  refine ⟨Nat.pow_pos (by decide), ?_⟩
  exact Nat.le_trans (Nat.pow_le_pow_right (by decide) (show 12 - i ≤ 11 by omega)) (by decide)
theorem hc_k {X C : Nat → Nat → Int} {rw_ pt : Nat} (hX : ∀ i j, -1 ≤ X i j ∧ X i j ≤ 35) (hr : rw_ ≤ 12) (hp : pt ≤ 12) (h : ∀ i, 1 ≤ i → i ≤ rw_ → ∀ j, 1 ≤ j → j ≤ pt + rw_ → C i j = kst X pt i j) : HC C rw_ pt (pt + rw_) := by
  refine ⟨rfl, hr, by omega, ?_, ?_⟩
  · intro i j h1 h2 h3 h4
    rw [h i h1 h2 j h3 h4]
    have hd := dg_11 h1
    have hx := hX (i - 1) (j - 1)
    unfold kst
    split
    · split
      · decide
      · have hm : 0 ≤ (((j : Nat) : Int) - 1) * ((dgP i : Nat) : Int) ∧ (((j : Nat) : Int) - 1) * ((dgP i : Nat) : Int) ≤ 11 * 1792160394037 := by
          refine ⟨Int.mul_nonneg (by omega) (by omega), Int.mul_le_mul (by omega) (by omega) (by omega) (by decide)⟩
        omega
    · omega
  · intro i j h1 h2 h3 h4
    rw [h i h1 h2 j (by omega) h4]
    have hd := dg_11 h1
    unfold kst
    rw [if_neg (by omega)]
    omega

set_option maxRecDepth 100000 in
set_option maxHeartbeats 4000000 in
theorem t_X3_pairUp {nx : Nat} {h : Nat → Option PC} {n : Nat} {q : Nat → Nat → Int} {o : Nat → Nat} {pa : Int} {mi : Int} {rw_ : Nat} {pt : Nat} {cl : Nat} {u : Nat → Int} {v : Nat → Int} {sl : Nat → Int} {ro : Nat → Int} {be : Nat → Int} {re : Nat → Int} {C0 : Nat → Nat → Int} {A0 : Nat → Int} {B0 : Nat → Int} {st : Nat → Int} {a : Int} {b : Int} (hQ : isQ h n q o) (hO : okQ n q o) (hJ : isJo h pa mi rw_ pt cl u v sl ro be re) (hre : ∀ j, j < 25 → re j = 0 ∨ re j = 1) (h14 : h 14 = some (oP 3 13 (fun i => some (15 + i)))) (hC : ∀ i, i < 13 → h (15 + i) = some (oL 2 25 (C0 i))) (h12 : h 12 = some (oA 0 12 A0)) (h13 : h 13 = some (oA 0 12 B0)) (hN : okN st) (ri_a : r32 a) (ri_b : r32 b) (ha12 : cN q a n ≤ 12) (hb12 : cN q b n ≤ 12) : Cx 5 (0, 0) yX3_pairUp cX3_pairUp 8 none [zR 11, zR 2, zI a, zI b, zI (st 0), zI (st 1), zI (st 2)] nx h (fun rr nx' l' => ∃ (A : Nat → Int) (B : Nat → Int) (C : Nat → Nat → Int) (m : Nat → Nat) (U : Nat → Int) (V : Nat → Int) (M : Nat → Int) (S : Nat → Int) (Bf : Nat → Int) (E : Nat → Int), (∀ i, i < (cN q a n) → A i = (((nthL q a n) i : Nat) : Int) ∧ (nthL q a n) i < n) ∧ (∀ j, j < (cN q b n) → B j = (((nthL q b n) j : Nat) : Int) ∧ (nthL q b n) j < n) ∧ (∀ i, 1 ≤ i → i ≤ (cN q a n) → ∀ j, 1 ≤ j → j ≤ (cN q b n + cN q a n) → C i j = kst (XJ q st (nthL q a n) (nthL q b n)) (cN q b n) i j) ∧ (HP C (cN q a n) (cN q b n + cN q a n) U V m) ∧ (HN (cN q b n + cN q a n) (cN q a n) m) ∧ (∀ j, 1 ≤ j → j < (cN q b n + cN q a n) + 1 → M j = ((m j : Nat) : Int)) ∧ (∀ j, j < 25 → E j = 0 ∨ E j = 1) ∧ rr = none ∧ nx' = nx ∧ l' = [(12, oA 0 12 A), (11, oO 3 [zI (cntZ (fun c => m (c + 1) ≠ 0) (cN q b n)), zI (sumZ (fun c => ifZ (m (c + 1) ≠ 0) (mQ q ((nthL q a n) (m (c + 1) - 1)) ((nthL q b n) c)) 0) (cN q b n)), zI ((cN q a n : Nat) : Int), zI ((cN q b n : Nat) : Int), zI ((cN q b n + cN q a n : Nat) : Int), zR 12, zR 13, zR 14, zR 28, zR 29, zR 30, zR 31, zR 32, zR 33]), (13, oA 0 12 B), (27, oL 2 25 (C 12)), (26, oL 2 25 (C 11)), (25, oL 2 25 (C 10)), (24, oL 2 25 (C 9)), (23, oL 2 25 (C 8)), (22, oL 2 25 (C 7)), (21, oL 2 25 (C 6)), (20, oL 2 25 (C 5)), (19, oL 2 25 (C 4)), (18, oL 2 25 (C 3)), (17, oL 2 25 (C 2)), (16, oL 2 25 (C 1)), (15, oL 2 25 (C 0)), (31, oA 0 25 M), (29, oL 2 25 V), (28, oL 2 13 U), (30, oL 2 25 S), (32, oA 0 25 Bf), (33, oA 1 25 E)]) := by
  refine cx_of pnX3_pairUp (Nat.le_of_ble_eq_true rfl) ?_
  intro K G hr hnm hR
  obtain ⟨h2, h3, h4, h5, h6, h7, h8, h9, h10⟩ := id hQ
  have hn40 := hO.1
  obtain ⟨h11, h28, h29, h30, h31, h32, h33⟩ := id hJ
  obtain ⟨hN0, hN1, hN2, hN3, hN4⟩ := id hN
  show Wp K 8 (Mx K h (fun rr nx' l' => ∃ (A : Nat → Int) (B : Nat → Int) (C : Nat → Nat → Int) (m : Nat → Nat) (U : Nat → Int) (V : Nat → Int) (M : Nat → Int) (S : Nat → Int) (Bf : Nat → Int) (E : Nat → Int), (∀ i, i < (cN q a n) → A i = (((nthL q a n) i : Nat) : Int) ∧ (nthL q a n) i < n) ∧ (∀ j, j < (cN q b n) → B j = (((nthL q b n) j : Nat) : Int) ∧ (nthL q b n) j < n) ∧ (∀ i, 1 ≤ i → i ≤ (cN q a n) → ∀ j, 1 ≤ j → j ≤ (cN q b n + cN q a n) → C i j = kst (XJ q st (nthL q a n) (nthL q b n)) (cN q b n) i j) ∧ (HP C (cN q a n) (cN q b n + cN q a n) U V m) ∧ (HN (cN q b n + cN q a n) (cN q a n) m) ∧ (∀ j, 1 ≤ j → j < (cN q b n + cN q a n) + 1 → M j = ((m j : Nat) : Int)) ∧ (∀ j, j < 25 → E j = 0 ∨ E j = 1) ∧ rr = none ∧ nx' = nx ∧ l' = [(12, oA 0 12 A), (11, oO 3 [zI (cntZ (fun c => m (c + 1) ≠ 0) (cN q b n)), zI (sumZ (fun c => ifZ (m (c + 1) ≠ 0) (mQ q ((nthL q a n) (m (c + 1) - 1)) ((nthL q b n) c)) 0) (cN q b n)), zI ((cN q a n : Nat) : Int), zI ((cN q b n : Nat) : Int), zI ((cN q b n + cN q a n : Nat) : Int), zR 12, zR 13, zR 14, zR 28, zR 29, zR 30, zR 31, zR 32, zR 33]), (13, oA 0 12 B), (27, oL 2 25 (C 12)), (26, oL 2 25 (C 11)), (25, oL 2 25 (C 10)), (24, oL 2 25 (C 9)), (23, oL 2 25 (C 8)), (22, oL 2 25 (C 7)), (21, oL 2 25 (C 6)), (20, oL 2 25 (C 5)), (19, oL 2 25 (C 4)), (18, oL 2 25 (C 3)), (17, oL 2 25 (C 2)), (16, oL 2 25 (C 1)), (15, oL 2 25 (C 0)), (31, oA 0 25 M), (29, oL 2 25 V), (28, oL 2 13 U), (30, oL 2 25 S), (32, oA 0 25 Bf), (33, oA 1 25 E)]) (0, 0)) (0, 0) 0 [(0, zR 11), (1, zR 2), (2, zI a), (3, zI b), (4, zI (st 0)), (5, zI (st 1)), (6, zI (st 2))] [] (nx, h, [])
  refine wp_aload_n G 0 dX3_pairUp_0 rfl ?_
  refine wp_aload_n G 1 dX3_pairUp_1 rfl ?_
  refine wp_iload_n G 2 dX3_pairUp_2 rfl ?_
  refine wp_aload_n G 0 dX3_pairUp_3 rfl ?_
  refine wp_get G 5 cOk3 fX3_27 dX3_pairUp_4 h11 rfl ?_
  refine wp_callS (mm := (0, 0)) (as := [zR 2, zI a, zR 12]) (rest := [zR 11]) G mX3_gather lX3_59 sX3_gather dX3_pairUp_7 rfl rfl (Nat.le_of_ble_eq_true rfl) (rmx_ok hR (by decide) (by decide) (by decide) (by decide)) (t_X3_gatherA (nx := nx) (a := a) (B0 := A0) hQ hO h12 ri_a ha12) (fun rr nx' l' hq => ?_)
  obtain ⟨R1 , hx_R10 , rfl , enx , rfl⟩ := hq
  subst nx'
  show Wp K 8 (Mx K h (fun rr nx' l' => ∃ (A : Nat → Int) (B : Nat → Int) (C : Nat → Nat → Int) (m : Nat → Nat) (U : Nat → Int) (V : Nat → Int) (M : Nat → Int) (S : Nat → Int) (Bf : Nat → Int) (E : Nat → Int), (∀ i, i < (cN q a n) → A i = (((nthL q a n) i : Nat) : Int) ∧ (nthL q a n) i < n) ∧ (∀ j, j < (cN q b n) → B j = (((nthL q b n) j : Nat) : Int) ∧ (nthL q b n) j < n) ∧ (∀ i, 1 ≤ i → i ≤ (cN q a n) → ∀ j, 1 ≤ j → j ≤ (cN q b n + cN q a n) → C i j = kst (XJ q st (nthL q a n) (nthL q b n)) (cN q b n) i j) ∧ (HP C (cN q a n) (cN q b n + cN q a n) U V m) ∧ (HN (cN q b n + cN q a n) (cN q a n) m) ∧ (∀ j, 1 ≤ j → j < (cN q b n + cN q a n) + 1 → M j = ((m j : Nat) : Int)) ∧ (∀ j, j < 25 → E j = 0 ∨ E j = 1) ∧ rr = none ∧ nx' = nx ∧ l' = [(12, oA 0 12 A), (11, oO 3 [zI (cntZ (fun c => m (c + 1) ≠ 0) (cN q b n)), zI (sumZ (fun c => ifZ (m (c + 1) ≠ 0) (mQ q ((nthL q a n) (m (c + 1) - 1)) ((nthL q b n) c)) 0) (cN q b n)), zI ((cN q a n : Nat) : Int), zI ((cN q b n : Nat) : Int), zI ((cN q b n + cN q a n : Nat) : Int), zR 12, zR 13, zR 14, zR 28, zR 29, zR 30, zR 31, zR 32, zR 33]), (13, oA 0 12 B), (27, oL 2 25 (C 12)), (26, oL 2 25 (C 11)), (25, oL 2 25 (C 10)), (24, oL 2 25 (C 9)), (23, oL 2 25 (C 8)), (22, oL 2 25 (C 7)), (21, oL 2 25 (C 6)), (20, oL 2 25 (C 5)), (19, oL 2 25 (C 4)), (18, oL 2 25 (C 3)), (17, oL 2 25 (C 2)), (16, oL 2 25 (C 1)), (15, oL 2 25 (C 0)), (31, oA 0 25 M), (29, oL 2 25 V), (28, oL 2 13 U), (30, oL 2 25 S), (32, oA 0 25 Bf), (33, oA 1 25 E)]) (0, 0)) (0, 0) 10 [(0, zR 11), (1, zR 2), (2, zI a), (3, zI b), (4, zI (st 0)), (5, zI (st 1)), (6, zI (st 2))] [zI ((cN q a n : Nat) : Int), zR 11] (nx, h, [(12, oA 0 12 R1)])
  refine wp_putE (hp2 := (nx, h, [(12, oA 0 12 R1), (11, oO 3 [zI pa, zI mi, zI ((cN q a n : Nat) : Int), zI ((pt : Nat) : Int), zI ((cl : Nat) : Int), zR 12, zR 13, zR 14, zR 28, zR 29, zR 30, zR 31, zR 32, zR 33])])) G 2 cOk3 fX3_18 dX3_pairUp_10 h11 (Nat.le_of_ble_eq_true rfl) (fit_int _) (fun _ e => by cases e; rfl) rfl ?_
  refine wp_aload_n G 0 dX3_pairUp_13 rfl ?_
  refine wp_aload_n G 1 dX3_pairUp_14 rfl ?_
  refine wp_iload_n G 3 dX3_pairUp_15 rfl ?_
  refine wp_aload_n G 0 dX3_pairUp_16 rfl ?_
  refine wp_get G 6 cOk3 fX3_31 dX3_pairUp_17 rfl rfl ?_
  refine wp_callS (mm := (0, 0)) (as := [zR 2, zI b, zR 13]) (rest := [zR 11]) G mX3_gather lX3_59 sX3_gather dX3_pairUp_20 rfl rfl (Nat.le_of_ble_eq_true rfl) (rmx_ok hR (by decide) (by decide) (by decide) (by decide)) (t_X3_gatherB (nx := nx) (a := b) (B0 := B0) hQ hO h13 ri_b hb12) (fun rr nx' l' hq => ?_)
  obtain ⟨R2 , hx_R20 , rfl , enx , rfl⟩ := hq
  subst nx'
  show Wp K 8 (Mx K h (fun rr nx' l' => ∃ (A : Nat → Int) (B : Nat → Int) (C : Nat → Nat → Int) (m : Nat → Nat) (U : Nat → Int) (V : Nat → Int) (M : Nat → Int) (S : Nat → Int) (Bf : Nat → Int) (E : Nat → Int), (∀ i, i < (cN q a n) → A i = (((nthL q a n) i : Nat) : Int) ∧ (nthL q a n) i < n) ∧ (∀ j, j < (cN q b n) → B j = (((nthL q b n) j : Nat) : Int) ∧ (nthL q b n) j < n) ∧ (∀ i, 1 ≤ i → i ≤ (cN q a n) → ∀ j, 1 ≤ j → j ≤ (cN q b n + cN q a n) → C i j = kst (XJ q st (nthL q a n) (nthL q b n)) (cN q b n) i j) ∧ (HP C (cN q a n) (cN q b n + cN q a n) U V m) ∧ (HN (cN q b n + cN q a n) (cN q a n) m) ∧ (∀ j, 1 ≤ j → j < (cN q b n + cN q a n) + 1 → M j = ((m j : Nat) : Int)) ∧ (∀ j, j < 25 → E j = 0 ∨ E j = 1) ∧ rr = none ∧ nx' = nx ∧ l' = [(12, oA 0 12 A), (11, oO 3 [zI (cntZ (fun c => m (c + 1) ≠ 0) (cN q b n)), zI (sumZ (fun c => ifZ (m (c + 1) ≠ 0) (mQ q ((nthL q a n) (m (c + 1) - 1)) ((nthL q b n) c)) 0) (cN q b n)), zI ((cN q a n : Nat) : Int), zI ((cN q b n : Nat) : Int), zI ((cN q b n + cN q a n : Nat) : Int), zR 12, zR 13, zR 14, zR 28, zR 29, zR 30, zR 31, zR 32, zR 33]), (13, oA 0 12 B), (27, oL 2 25 (C 12)), (26, oL 2 25 (C 11)), (25, oL 2 25 (C 10)), (24, oL 2 25 (C 9)), (23, oL 2 25 (C 8)), (22, oL 2 25 (C 7)), (21, oL 2 25 (C 6)), (20, oL 2 25 (C 5)), (19, oL 2 25 (C 4)), (18, oL 2 25 (C 3)), (17, oL 2 25 (C 2)), (16, oL 2 25 (C 1)), (15, oL 2 25 (C 0)), (31, oA 0 25 M), (29, oL 2 25 V), (28, oL 2 13 U), (30, oL 2 25 S), (32, oA 0 25 Bf), (33, oA 1 25 E)]) (0, 0)) (0, 0) 23 [(0, zR 11), (1, zR 2), (2, zI a), (3, zI b), (4, zI (st 0)), (5, zI (st 1)), (6, zI (st 2))] [zI ((cN q b n : Nat) : Int), zR 11] (nx, h, [(12, oA 0 12 R1), (11, oO 3 [zI pa, zI mi, zI ((cN q a n : Nat) : Int), zI ((pt : Nat) : Int), zI ((cl : Nat) : Int), zR 12, zR 13, zR 14, zR 28, zR 29, zR 30, zR 31, zR 32, zR 33]), (13, oA 0 12 R2)])
  refine wp_putE (hp2 := (nx, h, [(12, oA 0 12 R1), (11, oO 3 [zI pa, zI mi, zI ((cN q a n : Nat) : Int), zI ((cN q b n : Nat) : Int), zI ((cl : Nat) : Int), zR 12, zR 13, zR 14, zR 28, zR 29, zR 30, zR 31, zR 32, zR 33]), (13, oA 0 12 R2)])) G 3 cOk3 fX3_21 dX3_pairUp_23 rfl (Nat.le_of_ble_eq_true rfl) (fit_int _) (fun _ e => by cases e; rfl) rfl ?_
  refine wp_aload_n G 0 dX3_pairUp_26 rfl ?_
  refine wp_aload_n G 0 dX3_pairUp_27 rfl ?_
  refine wp_get G 3 cOk3 fX3_21 dX3_pairUp_28 rfl rfl ?_
  refine wp_aload_n G 0 dX3_pairUp_31 rfl ?_
  refine wp_get G 2 cOk3 fX3_18 dX3_pairUp_32 rfl rfl ?_
  refine wp_iadd G dX3_pairUp_35 ?_
  rw [show ((((cN q b n : Nat) : Int) + ((cN q a n : Nat) : Int)) : Int) = ((cN q b n + cN q a n : Nat) : Int) by omega]
  refine wp_putE (hp2 := (nx, h, [(12, oA 0 12 R1), (11, oO 3 [zI pa, zI mi, zI ((cN q a n : Nat) : Int), zI ((cN q b n : Nat) : Int), zI ((cN q b n + cN q a n : Nat) : Int), zR 12, zR 13, zR 14, zR 28, zR 29, zR 30, zR 31, zR 32, zR 33]), (13, oA 0 12 R2)])) G 4 cOk3 fX3_24 dX3_pairUp_36 rfl (Nat.le_of_ble_eq_true rfl) (fit_int _) (fun _ e => by cases e; rfl) rfl ?_
  have hAA := nth_A hx_R10 ha12
  have hBB := nth_A hx_R20 hb12
  refine wp_aload_n G 0 dX3_pairUp_39 rfl ?_
  refine wp_aload_n G 1 dX3_pairUp_40 rfl ?_
  refine wp_iload G 4 dX3_pairUp_41 rfl ?_
  refine wp_iload G 5 dX3_pairUp_43 rfl ?_
  refine wp_iload G 6 dX3_pairUp_45 rfl ?_
  refine wp_callV (mm := (0, 0)) (b := 11) (ci := 3) (as := [zR 2, zI (st 0), zI (st 1), zI (st 2)]) (rest := []) G mX3_fillCosts lX3_63 iX3_fillCosts eX3_fillCosts ⟨_, rfl, rfl⟩ dX3_pairUp_47 rfl rfl rfl (Nat.le_of_ble_eq_true rfl) (rmx_ok hR (by decide) (by decide) (by decide) (by decide)) (t_X3_fillCosts (nx := nx) (rw_ := (cN q a n)) (pt := (cN q b n)) (cl := (cN q b n + cN q a n)) (C0 := C0) (A := R1) (B := R2) (la := (nthL q a n)) (lb := (nthL q b n)) (st := st) hQ hO ⟨rfl, h28, h29, h30, h31, h32, h33⟩ ha12 (by omega) hre h14 (fun i hi => lk_mid (by omega) (by omega) rfl (hC i hi)) rfl rfl hb12 hAA hBB hN) (fun rr nx' l' hq => ?_)
  obtain ⟨C3 , hx_C30 , rfl , enx , rfl⟩ := hq
  subst nx'
  show Wp K 8 (Mx K h (fun rr nx' l' => ∃ (A : Nat → Int) (B : Nat → Int) (C : Nat → Nat → Int) (m : Nat → Nat) (U : Nat → Int) (V : Nat → Int) (M : Nat → Int) (S : Nat → Int) (Bf : Nat → Int) (E : Nat → Int), (∀ i, i < (cN q a n) → A i = (((nthL q a n) i : Nat) : Int) ∧ (nthL q a n) i < n) ∧ (∀ j, j < (cN q b n) → B j = (((nthL q b n) j : Nat) : Int) ∧ (nthL q b n) j < n) ∧ (∀ i, 1 ≤ i → i ≤ (cN q a n) → ∀ j, 1 ≤ j → j ≤ (cN q b n + cN q a n) → C i j = kst (XJ q st (nthL q a n) (nthL q b n)) (cN q b n) i j) ∧ (HP C (cN q a n) (cN q b n + cN q a n) U V m) ∧ (HN (cN q b n + cN q a n) (cN q a n) m) ∧ (∀ j, 1 ≤ j → j < (cN q b n + cN q a n) + 1 → M j = ((m j : Nat) : Int)) ∧ (∀ j, j < 25 → E j = 0 ∨ E j = 1) ∧ rr = none ∧ nx' = nx ∧ l' = [(12, oA 0 12 A), (11, oO 3 [zI (cntZ (fun c => m (c + 1) ≠ 0) (cN q b n)), zI (sumZ (fun c => ifZ (m (c + 1) ≠ 0) (mQ q ((nthL q a n) (m (c + 1) - 1)) ((nthL q b n) c)) 0) (cN q b n)), zI ((cN q a n : Nat) : Int), zI ((cN q b n : Nat) : Int), zI ((cN q b n + cN q a n : Nat) : Int), zR 12, zR 13, zR 14, zR 28, zR 29, zR 30, zR 31, zR 32, zR 33]), (13, oA 0 12 B), (27, oL 2 25 (C 12)), (26, oL 2 25 (C 11)), (25, oL 2 25 (C 10)), (24, oL 2 25 (C 9)), (23, oL 2 25 (C 8)), (22, oL 2 25 (C 7)), (21, oL 2 25 (C 6)), (20, oL 2 25 (C 5)), (19, oL 2 25 (C 4)), (18, oL 2 25 (C 3)), (17, oL 2 25 (C 2)), (16, oL 2 25 (C 1)), (15, oL 2 25 (C 0)), (31, oA 0 25 M), (29, oL 2 25 V), (28, oL 2 13 U), (30, oL 2 25 S), (32, oA 0 25 Bf), (33, oA 1 25 E)]) (0, 0)) (0, 0) 50 [(0, zR 11), (1, zR 2), (2, zI a), (3, zI b), (4, zI (st 0)), (5, zI (st 1)), (6, zI (st 2))] [] (nx, h, [(12, oA 0 12 R1), (11, oO 3 [zI pa, zI mi, zI ((cN q a n : Nat) : Int), zI ((cN q b n : Nat) : Int), zI ((cN q b n + cN q a n : Nat) : Int), zR 12, zR 13, zR 14, zR 28, zR 29, zR 30, zR 31, zR 32, zR 33]), (13, oA 0 12 R2), (27, oL 2 25 (C3 12)), (26, oL 2 25 (C3 11)), (25, oL 2 25 (C3 10)), (24, oL 2 25 (C3 9)), (23, oL 2 25 (C3 8)), (22, oL 2 25 (C3 7)), (21, oL 2 25 (C3 6)), (20, oL 2 25 (C3 5)), (19, oL 2 25 (C3 4)), (18, oL 2 25 (C3 3)), (17, oL 2 25 (C3 2)), (16, oL 2 25 (C3 1)), (15, oL 2 25 (C3 0))])
  refine wp_aload_n G 0 dX3_pairUp_50 rfl ?_
  refine wp_callV (mm := (0, 0)) (b := 11) (ci := 3) (as := []) (rest := []) G mX3_clearPrices lX3_67 iX3_clearPrices eX3_clearPrices ⟨_, rfl, rfl⟩ dX3_pairUp_51 rfl rfl rfl (Nat.le_of_ble_eq_true rfl) (rmx_ok hR (by decide) (by decide) (by decide) (by decide)) (t_X3_clearPrices (nx := nx) (rw_ := (cN q a n)) (pt := (cN q b n)) (cl := (cN q b n + cN q a n)) ⟨rfl, h28, h29, h30, h31, h32, h33⟩ ha12 (by omega) hre) (fun rr nx' l' hq => ?_)
  obtain ⟨U4 , V5 , R6 , hx_U40 , hx_U41 , hx_U42 , rfl , enx , rfl⟩ := hq
  subst nx'
  show Wp K 8 (Mx K h (fun rr nx' l' => ∃ (A : Nat → Int) (B : Nat → Int) (C : Nat → Nat → Int) (m : Nat → Nat) (U : Nat → Int) (V : Nat → Int) (M : Nat → Int) (S : Nat → Int) (Bf : Nat → Int) (E : Nat → Int), (∀ i, i < (cN q a n) → A i = (((nthL q a n) i : Nat) : Int) ∧ (nthL q a n) i < n) ∧ (∀ j, j < (cN q b n) → B j = (((nthL q b n) j : Nat) : Int) ∧ (nthL q b n) j < n) ∧ (∀ i, 1 ≤ i → i ≤ (cN q a n) → ∀ j, 1 ≤ j → j ≤ (cN q b n + cN q a n) → C i j = kst (XJ q st (nthL q a n) (nthL q b n)) (cN q b n) i j) ∧ (HP C (cN q a n) (cN q b n + cN q a n) U V m) ∧ (HN (cN q b n + cN q a n) (cN q a n) m) ∧ (∀ j, 1 ≤ j → j < (cN q b n + cN q a n) + 1 → M j = ((m j : Nat) : Int)) ∧ (∀ j, j < 25 → E j = 0 ∨ E j = 1) ∧ rr = none ∧ nx' = nx ∧ l' = [(12, oA 0 12 A), (11, oO 3 [zI (cntZ (fun c => m (c + 1) ≠ 0) (cN q b n)), zI (sumZ (fun c => ifZ (m (c + 1) ≠ 0) (mQ q ((nthL q a n) (m (c + 1) - 1)) ((nthL q b n) c)) 0) (cN q b n)), zI ((cN q a n : Nat) : Int), zI ((cN q b n : Nat) : Int), zI ((cN q b n + cN q a n : Nat) : Int), zR 12, zR 13, zR 14, zR 28, zR 29, zR 30, zR 31, zR 32, zR 33]), (13, oA 0 12 B), (27, oL 2 25 (C 12)), (26, oL 2 25 (C 11)), (25, oL 2 25 (C 10)), (24, oL 2 25 (C 9)), (23, oL 2 25 (C 8)), (22, oL 2 25 (C 7)), (21, oL 2 25 (C 6)), (20, oL 2 25 (C 5)), (19, oL 2 25 (C 4)), (18, oL 2 25 (C 3)), (17, oL 2 25 (C 2)), (16, oL 2 25 (C 1)), (15, oL 2 25 (C 0)), (31, oA 0 25 M), (29, oL 2 25 V), (28, oL 2 13 U), (30, oL 2 25 S), (32, oA 0 25 Bf), (33, oA 1 25 E)]) (0, 0)) (0, 0) 54 [(0, zR 11), (1, zR 2), (2, zI a), (3, zI b), (4, zI (st 0)), (5, zI (st 1)), (6, zI (st 2))] [] (nx, h, [(12, oA 0 12 R1), (11, oO 3 [zI pa, zI mi, zI ((cN q a n : Nat) : Int), zI ((cN q b n : Nat) : Int), zI ((cN q b n + cN q a n : Nat) : Int), zR 12, zR 13, zR 14, zR 28, zR 29, zR 30, zR 31, zR 32, zR 33]), (13, oA 0 12 R2), (27, oL 2 25 (C3 12)), (26, oL 2 25 (C3 11)), (25, oL 2 25 (C3 10)), (24, oL 2 25 (C3 9)), (23, oL 2 25 (C3 8)), (22, oL 2 25 (C3 7)), (21, oL 2 25 (C3 6)), (20, oL 2 25 (C3 5)), (19, oL 2 25 (C3 4)), (18, oL 2 25 (C3 3)), (17, oL 2 25 (C3 2)), (16, oL 2 25 (C3 1)), (15, oL 2 25 (C3 0)), (31, oA 0 25 R6), (29, oL 2 25 V5), (28, oL 2 13 U4)])
  have hHC := hc_k (XJ_b (q := q) (la := (nthL q a n)) (lb := (nthL q b n)) hN) ha12 hb12 hx_C30
  refine wp_iconst G dX3_pairUp_54 ?_
  refine wp_istore (lv' := [(7, zI 1), (0, zR 11), (1, zR 2), (2, zI a), (3, zI b), (4, zI (st 0)), (5, zI (st 1)), (6, zI (st 2))]) G dX3_pairUp_55 (by decide) rfl ?_
  refine wp_own (r := 30) (hp2 := (nx, h, [(12, oA 0 12 R1), (11, oO 3 [zI pa, zI mi, zI ((cN q a n : Nat) : Int), zI ((cN q b n : Nat) : Int), zI ((cN q b n + cN q a n : Nat) : Int), zR 12, zR 13, zR 14, zR 28, zR 29, zR 30, zR 31, zR 32, zR 33]), (13, oA 0 12 R2), (27, oL 2 25 (C3 12)), (26, oL 2 25 (C3 11)), (25, oL 2 25 (C3 10)), (24, oL 2 25 (C3 9)), (23, oL 2 25 (C3 8)), (22, oL 2 25 (C3 7)), (21, oL 2 25 (C3 6)), (20, oL 2 25 (C3 5)), (19, oL 2 25 (C3 4)), (18, oL 2 25 (C3 3)), (17, oL 2 25 (C3 2)), (16, oL 2 25 (C3 1)), (15, oL 2 25 (C3 0)), (31, oA 0 25 R6), (29, oL 2 25 V5), (28, oL 2 13 U4), (30, oL 2 25 sl)])) h30 rfl ?_
  refine wp_own (r := 32) (hp2 := (nx, h, [(12, oA 0 12 R1), (11, oO 3 [zI pa, zI mi, zI ((cN q a n : Nat) : Int), zI ((cN q b n : Nat) : Int), zI ((cN q b n + cN q a n : Nat) : Int), zR 12, zR 13, zR 14, zR 28, zR 29, zR 30, zR 31, zR 32, zR 33]), (13, oA 0 12 R2), (27, oL 2 25 (C3 12)), (26, oL 2 25 (C3 11)), (25, oL 2 25 (C3 10)), (24, oL 2 25 (C3 9)), (23, oL 2 25 (C3 8)), (22, oL 2 25 (C3 7)), (21, oL 2 25 (C3 6)), (20, oL 2 25 (C3 5)), (19, oL 2 25 (C3 4)), (18, oL 2 25 (C3 3)), (17, oL 2 25 (C3 2)), (16, oL 2 25 (C3 1)), (15, oL 2 25 (C3 0)), (31, oA 0 25 R6), (29, oL 2 25 V5), (28, oL 2 13 U4), (30, oL 2 25 sl), (32, oA 0 25 be)])) h32 rfl ?_
  refine wp_own (r := 33) (hp2 := (nx, h, [(12, oA 0 12 R1), (11, oO 3 [zI pa, zI mi, zI ((cN q a n : Nat) : Int), zI ((cN q b n : Nat) : Int), zI ((cN q b n + cN q a n : Nat) : Int), zR 12, zR 13, zR 14, zR 28, zR 29, zR 30, zR 31, zR 32, zR 33]), (13, oA 0 12 R2), (27, oL 2 25 (C3 12)), (26, oL 2 25 (C3 11)), (25, oL 2 25 (C3 10)), (24, oL 2 25 (C3 9)), (23, oL 2 25 (C3 8)), (22, oL 2 25 (C3 7)), (21, oL 2 25 (C3 6)), (20, oL 2 25 (C3 5)), (19, oL 2 25 (C3 4)), (18, oL 2 25 (C3 3)), (17, oL 2 25 (C3 2)), (16, oL 2 25 (C3 1)), (15, oL 2 25 (C3 0)), (31, oA 0 25 R6), (29, oL 2 25 V5), (28, oL 2 13 U4), (30, oL 2 25 sl), (32, oA 0 25 be), (33, oA 1 25 re)])) h33 rfl ?_
  refine wp_lv [1, 2, 3, 4, 5, 6, 7, 0] rfl ?_
  suffices lp57 : ∀ (fu : Nat) (t : Nat) (m : Nat → Nat) (U : Nat → Int) (V : Nat → Int) (M : Nat → Int) (S : Nat → Int) (Bf : Nat → Int) (E : Nat → Int) (v7 : Int), cN q a n - t < fu → (v7 = ((t + 1 : Nat) : Int)) → (t ≤ cN q a n) → (HP C3 (cN q a n) (cN q b n + cN q a n) U V m) → (HN (cN q b n + cN q a n) t m) → (∀ j, 1 ≤ j → j < (cN q b n + cN q a n) + 1 → M j = ((m j : Nat) : Int)) → (∀ j, j < 25 → E j = 0 ∨ E j = 1) → Wp K 8 (Mx K h (fun rr nx' l' => ∃ (A : Nat → Int) (B : Nat → Int) (C : Nat → Nat → Int) (m : Nat → Nat) (U : Nat → Int) (V : Nat → Int) (M : Nat → Int) (S : Nat → Int) (Bf : Nat → Int) (E : Nat → Int), (∀ i, i < (cN q a n) → A i = (((nthL q a n) i : Nat) : Int) ∧ (nthL q a n) i < n) ∧ (∀ j, j < (cN q b n) → B j = (((nthL q b n) j : Nat) : Int) ∧ (nthL q b n) j < n) ∧ (∀ i, 1 ≤ i → i ≤ (cN q a n) → ∀ j, 1 ≤ j → j ≤ (cN q b n + cN q a n) → C i j = kst (XJ q st (nthL q a n) (nthL q b n)) (cN q b n) i j) ∧ (HP C (cN q a n) (cN q b n + cN q a n) U V m) ∧ (HN (cN q b n + cN q a n) (cN q a n) m) ∧ (∀ j, 1 ≤ j → j < (cN q b n + cN q a n) + 1 → M j = ((m j : Nat) : Int)) ∧ (∀ j, j < 25 → E j = 0 ∨ E j = 1) ∧ rr = none ∧ nx' = nx ∧ l' = [(12, oA 0 12 A), (11, oO 3 [zI (cntZ (fun c => m (c + 1) ≠ 0) (cN q b n)), zI (sumZ (fun c => ifZ (m (c + 1) ≠ 0) (mQ q ((nthL q a n) (m (c + 1) - 1)) ((nthL q b n) c)) 0) (cN q b n)), zI ((cN q a n : Nat) : Int), zI ((cN q b n : Nat) : Int), zI ((cN q b n + cN q a n : Nat) : Int), zR 12, zR 13, zR 14, zR 28, zR 29, zR 30, zR 31, zR 32, zR 33]), (13, oA 0 12 B), (27, oL 2 25 (C 12)), (26, oL 2 25 (C 11)), (25, oL 2 25 (C 10)), (24, oL 2 25 (C 9)), (23, oL 2 25 (C 8)), (22, oL 2 25 (C 7)), (21, oL 2 25 (C 6)), (20, oL 2 25 (C 5)), (19, oL 2 25 (C 4)), (18, oL 2 25 (C 3)), (17, oL 2 25 (C 2)), (16, oL 2 25 (C 1)), (15, oL 2 25 (C 0)), (31, oA 0 25 M), (29, oL 2 25 V), (28, oL 2 13 U), (30, oL 2 25 S), (32, oA 0 25 Bf), (33, oA 1 25 E)]) (0, 0)) (0, 0) 57 [(0, zR 11), (1, zR 2), (2, zI a), (3, zI b), (4, zI (st 0)), (5, zI (st 1)), (6, zI (st 2)), (7, zI v7)] [] (nx, h, [(12, oA 0 12 R1), (11, oO 3 [zI pa, zI mi, zI ((cN q a n : Nat) : Int), zI ((cN q b n : Nat) : Int), zI ((cN q b n + cN q a n : Nat) : Int), zR 12, zR 13, zR 14, zR 28, zR 29, zR 30, zR 31, zR 32, zR 33]), (13, oA 0 12 R2), (27, oL 2 25 (C3 12)), (26, oL 2 25 (C3 11)), (25, oL 2 25 (C3 10)), (24, oL 2 25 (C3 9)), (23, oL 2 25 (C3 8)), (22, oL 2 25 (C3 7)), (21, oL 2 25 (C3 6)), (20, oL 2 25 (C3 5)), (19, oL 2 25 (C3 4)), (18, oL 2 25 (C3 3)), (17, oL 2 25 (C3 2)), (16, oL 2 25 (C3 1)), (15, oL 2 25 (C3 0)), (31, oA 0 25 M), (29, oL 2 25 V), (28, oL 2 13 U), (30, oL 2 25 S), (32, oA 0 25 Bf), (33, oA 1 25 E)]) from lp57 _ 0 (fun _ => 0) U4 V5 R6 sl be re 1 (Nat.lt_succ_self _) (by omega) (by omega) (by exact hp_0 hHC hx_U40 hx_U41) (by exact hn_0) (by exact fun j _ hj => hx_U42 j hj) (by exact hre)
  intro fu
  induction fu with
  | zero => intro t m U V M S Bf E v7 hm; exact absurd hm (Nat.not_lt_zero _)
  | succ fu ih57 =>
    intro t m U V M S Bf E v7 hm57 e7 hi0 hP hNN hM hE
    subst e7
    refine wp_iload G 7 dX3_pairUp_57 rfl ?_
    refine wp_aload_n G 0 dX3_pairUp_59 rfl ?_
    refine wp_get G 2 cOk3 fX3_18 dX3_pairUp_60 rfl rfl ?_
    refine wp_icmp_gt G dX3_pairUp_63 (by omega) (by omega) (fun kq1 => ?_) (fun kq1 => ?_)
    · skip
      refine wp_aload_n G 0 dX3_pairUp_78 rfl ?_
      refine wp_aload_n G 1 dX3_pairUp_79 rfl ?_
      refine wp_cVN (b := 11) (ci := 3) (as := [zR 2]) (rest := []) (hp2 := (nx, h, [(12, oA 0 12 R1), (11, oO 3 [zI (cntZ (fun c => m (c + 1) ≠ 0) (cN q b n)), zI (sumZ (fun c => ifZ (m (c + 1) ≠ 0) (mQ q ((nthL q a n) (m (c + 1) - 1)) ((nthL q b n) c)) 0) (cN q b n)), zI (((cN q a n) : Nat) : Int), zI (((cN q b n) : Nat) : Int), zI (((cN q b n + cN q a n) : Nat) : Int), zR 12, zR 13, zR 14, zR 28, zR 29, zR 30, zR 31, zR 32, zR 33]), (13, oA 0 12 R2), (27, oL 2 25 (C3 12)), (26, oL 2 25 (C3 11)), (25, oL 2 25 (C3 10)), (24, oL 2 25 (C3 9)), (23, oL 2 25 (C3 8)), (22, oL 2 25 (C3 7)), (21, oL 2 25 (C3 6)), (20, oL 2 25 (C3 5)), (19, oL 2 25 (C3 4)), (18, oL 2 25 (C3 3)), (17, oL 2 25 (C3 2)), (16, oL 2 25 (C3 1)), (15, oL 2 25 (C3 0)), (31, oA 0 25 M), (29, oL 2 25 V), (28, oL 2 13 U), (30, oL 2 25 S), (32, oA 0 25 Bf), (33, oA 1 25 E)])) G mX3_sumUp lX3_74 iX3_sumUp eX3_sumUp ⟨_, rfl, rfl⟩ dX3_pairUp_80 rfl rfl rfl (Nat.le_of_ble_eq_true rfl) (rmx_ok hR (by decide) (by decide) (by decide) (by decide)) (t_X3_sumUp (nx := nx) (rw_ := (cN q a n)) (pt := (cN q b n)) (cl := (cN q b n + cN q a n)) (A := R1) (B := R2) (la := (nthL q a n)) (lb := (nthL q b n)) (rn := m) (u := U) (v := V) (sl := S) (ro := M) (be := Bf) (re := E) hQ hO ⟨rfl, rfl, rfl, rfl, rfl, rfl, rfl⟩ ha12 (by omega) hE rfl rfl hb12 (by omega) hAA hBB (fun j h1 h2 => ⟨hM j h1 h2, by have := hNN.le j h1 (by omega); omega⟩)) rfl ?_
      exact wp_vreturn G hr dX3_pairUp_83 ⟨R1, R2, C3, m, U, V, M, S, Bf, E, by exact hAA, by exact hBB, by exact hx_C30, by exact hP, by exact (show t = cN q a n by omega) ▸ hNN, by exact hM, by exact hE, rfl, rfl, by rfl⟩
    · skip
      refine wp_aload_n G 0 dX3_pairUp_66 rfl ?_
      refine wp_iload G 7 dX3_pairUp_67 rfl ?_
      refine wp_callV (mm := (0, 0)) (b := 11) (ci := 3) (as := [zI ((t + 1 : Nat) : Int)]) (rest := []) G mX3_placeRow lX3_70 iX3_placeRow eX3_placeRow ⟨_, rfl, rfl⟩ dX3_pairUp_69 rfl rfl rfl (Nat.le_of_ble_eq_true rfl) (rmx_ok hR (by decide) (by decide) (by decide) (by decide)) (t_X3_placeRow (nx := nx) (rw_ := (cN q a n)) (pt := (cN q b n)) (cl := (cN q b n + cN q a n)) (C := C3) (rn := (fup m 0 (t + 1))) (t := t) (u := U) (v := V) (sl := S) (ro := M) (be := Bf) (re := E) ⟨rfl, rfl, rfl, rfl, rfl, rfl, rfl⟩ ha12 (by omega) hE h14 (fun i hi => by rcases (show i = 0 ∨ i = 1 ∨ i = 2 ∨ i = 3 ∨ i = 4 ∨ i = 5 ∨ i = 6 ∨ i = 7 ∨ i = 8 ∨ i = 9 ∨ i = 10 ∨ i = 11 ∨ i = 12 by omega) with rfl | rfl | rfl | rfl | rfl | rfl | rfl | rfl | rfl | rfl | rfl | rfl | rfl <;> rfl) hHC (hp_up hP) (hn_up hNN) (fup_self _ _ _) (by omega) (fun j h1 h2 => by rw [fup_ne _ _ (by omega)]; exact hM j h1 h2)) (fun rr nx' l' hq => ?_)
      obtain ⟨U7 , V8 , S9 , M10 , B11 , E12 , hx_U70 , hx_U71 , rfl , enx , rfl⟩ := hq
      subst nx'
      show Wp K 8 (Mx K h (fun rr nx' l' => ∃ (A : Nat → Int) (B : Nat → Int) (C : Nat → Nat → Int) (m : Nat → Nat) (U : Nat → Int) (V : Nat → Int) (M : Nat → Int) (S : Nat → Int) (Bf : Nat → Int) (E : Nat → Int), (∀ i, i < (cN q a n) → A i = (((nthL q a n) i : Nat) : Int) ∧ (nthL q a n) i < n) ∧ (∀ j, j < (cN q b n) → B j = (((nthL q b n) j : Nat) : Int) ∧ (nthL q b n) j < n) ∧ (∀ i, 1 ≤ i → i ≤ (cN q a n) → ∀ j, 1 ≤ j → j ≤ (cN q b n + cN q a n) → C i j = kst (XJ q st (nthL q a n) (nthL q b n)) (cN q b n) i j) ∧ (HP C (cN q a n) (cN q b n + cN q a n) U V m) ∧ (HN (cN q b n + cN q a n) (cN q a n) m) ∧ (∀ j, 1 ≤ j → j < (cN q b n + cN q a n) + 1 → M j = ((m j : Nat) : Int)) ∧ (∀ j, j < 25 → E j = 0 ∨ E j = 1) ∧ rr = none ∧ nx' = nx ∧ l' = [(12, oA 0 12 A), (11, oO 3 [zI (cntZ (fun c => m (c + 1) ≠ 0) (cN q b n)), zI (sumZ (fun c => ifZ (m (c + 1) ≠ 0) (mQ q ((nthL q a n) (m (c + 1) - 1)) ((nthL q b n) c)) 0) (cN q b n)), zI ((cN q a n : Nat) : Int), zI ((cN q b n : Nat) : Int), zI ((cN q b n + cN q a n : Nat) : Int), zR 12, zR 13, zR 14, zR 28, zR 29, zR 30, zR 31, zR 32, zR 33]), (13, oA 0 12 B), (27, oL 2 25 (C 12)), (26, oL 2 25 (C 11)), (25, oL 2 25 (C 10)), (24, oL 2 25 (C 9)), (23, oL 2 25 (C 8)), (22, oL 2 25 (C 7)), (21, oL 2 25 (C 6)), (20, oL 2 25 (C 5)), (19, oL 2 25 (C 4)), (18, oL 2 25 (C 3)), (17, oL 2 25 (C 2)), (16, oL 2 25 (C 1)), (15, oL 2 25 (C 0)), (31, oA 0 25 M), (29, oL 2 25 V), (28, oL 2 13 U), (30, oL 2 25 S), (32, oA 0 25 Bf), (33, oA 1 25 E)]) (0, 0)) (0, 0) 72 [(0, zR 11), (1, zR 2), (2, zI a), (3, zI b), (4, zI (st 0)), (5, zI (st 1)), (6, zI (st 2)), (7, zI ((t + 1 : Nat) : Int))] [] (nx, h, [(12, oA 0 12 R1), (11, oO 3 [zI pa, zI mi, zI ((cN q a n : Nat) : Int), zI ((cN q b n : Nat) : Int), zI ((cN q b n + cN q a n : Nat) : Int), zR 12, zR 13, zR 14, zR 28, zR 29, zR 30, zR 31, zR 32, zR 33]), (13, oA 0 12 R2), (27, oL 2 25 (C3 12)), (26, oL 2 25 (C3 11)), (25, oL 2 25 (C3 10)), (24, oL 2 25 (C3 9)), (23, oL 2 25 (C3 8)), (22, oL 2 25 (C3 7)), (21, oL 2 25 (C3 6)), (20, oL 2 25 (C3 5)), (19, oL 2 25 (C3 4)), (18, oL 2 25 (C3 3)), (17, oL 2 25 (C3 2)), (16, oL 2 25 (C3 1)), (15, oL 2 25 (C3 0)), (31, oA 0 25 M10), (29, oL 2 25 V8), (28, oL 2 13 U7), (30, oL 2 25 S9), (32, oA 0 25 B11), (33, oA 1 25 E12)])
      obtain ⟨m2, hm2⟩ := hx_U71
      refine wp_iinc (lv' := [(7, zI (((t + 1 : Nat) : Int) + 1)), (0, zR 11), (1, zR 2), (2, zI a), (3, zI b), (4, zI (st 0)), (5, zI (st 1)), (6, zI (st 2))]) G 7 dX3_pairUp_72 rfl (by decide) rfl ?_
      refine wp_goto G dX3_pairUp_75 ?_
      refine wp_lv [1, 2, 3, 4, 5, 6, 7, 0] rfl ?_
      exact ih57 (t + 1) m2 U7 V8 M10 S9 B11 E12 (((t + 1 : Nat) : Int) + 1) (by omega) (by omega) (by omega) (by exact hm2.1) (by exact hm2.2.1) (by exact hm2.2.2) (by exact hx_U70)

