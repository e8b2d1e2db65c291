def dgP (k : Nat) : Nat := 13 ^ (12 - k)
theorem dg_b (k : Nat) : 0 < dgP k ∧ dgP k ≤ 23298085122481 := by
  refine ⟨Nat.pow_pos (by decide), ?_⟩
  exact Nat.le_trans (Nat.pow_le_pow_right (by decide) (Nat.sub_le 12 k)) (by decide)
theorem dg_s {k : Nat} (hk : k < 12) : ((dgP k : Nat) : Int) / 13 = ((dgP (k + 1) : Nat) : Int) := by
  have e : dgP k = dgP (k + 1) * 13 := by
    unfold dgP
    rw [show 12 - k = 12 - (k + 1) + 1 by omega, Nat.pow_succ]
  rw [e]
  omega
/-- the cost of a row's column -/
def kst (X : Nat → Nat → Int) (pt i j : Nat) : Int := if j ≤ pt then (if X (i - 1) (j - 1) < 0 then 1000000000000000000 else X (i - 1) (j - 1) * 23298085122481 + (((j : Nat) : Int) - 1) * ((dgP i : Nat) : Int)) else 23298085122481000 + 12 * ((dgP i : Nat) : Int)
theorem kst_a {X : Nat → Nat → Int} {pt i j : Nat} (h : ¬ j ≤ pt) : 23298085122481000 + 12 * ((dgP i : Nat) : Int) = kst X pt i j := (if_neg h).symm
theorem ms_y {q : Nat → Nat → Int} {st : Nat → Int} {i j : Nat} (h : (if 0 ≤ (q 1 i - q 1 j) then (q 1 i - q 1 j) else -(q 1 i - q 1 j)) ≤ st 0 ∧ (farZ (q 2 i) (q 3 i) (q 2 j) (q 3 j)) ≤ st 1 ∧ (if 0 ≤ (q 4 i - q 4 j) then (q 4 i - q 4 j) else -(q 4 i - q 4 j)) ≤ st 2) : msZ q st i j = (if 0 ≤ (q 1 i - q 1 j) then (q 1 i - q 1 j) else -(q 1 i - q 1 j)) + (farZ (q 2 i) (q 3 i) (q 2 j) (q 3 j)) + (if 0 ≤ (q 4 i - q 4 j) then (q 4 i - q 4 j) else -(q 4 i - q 4 j)) := if_pos h
theorem ms_n {q : Nat → Nat → Int} {st : Nat → Int} {i j : Nat} (h : ¬ ((if 0 ≤ (q 1 i - q 1 j) then (q 1 i - q 1 j) else -(q 1 i - q 1 j)) ≤ st 0 ∧ (farZ (q 2 i) (q 3 i) (q 2 j) (q 3 j)) ≤ st 1 ∧ (if 0 ≤ (q 4 i - q 4 j) then (q 4 i - q 4 j) else -(q 4 i - q 4 j)) ≤ st 2)) : msZ q st i j = -1 := if_neg h
theorem mis_0 {q : Nat → Nat → Int} {i j : Nat} : 0 ≤ (if 0 ≤ (q 1 i - q 1 j) then (q 1 i - q 1 j) else -(q 1 i - q 1 j)) + (farZ (q 2 i) (q 3 i) (q 2 j) (q 3 j)) + (if 0 ≤ (q 4 i - q 4 j) then (q 4 i - q 4 j) else -(q 4 i - q 4 j)) := by
  have hf := farZ_0 (q 2 i) (q 3 i) (q 2 j) (q 3 j)
  have ha : 0 ≤ (if 0 ≤ (q 1 i - q 1 j) then (q 1 i - q 1 j) else -(q 1 i - q 1 j)) := by split <;> omega
  have hb : 0 ≤ (if 0 ≤ (q 4 i - q 4 j) then (q 4 i - q 4 j) else -(q 4 i - q 4 j)) := by split <;> omega
  omega
theorem mis_b {n : Nat} {q : Nat → Nat → Int} {o : Nat → Nat} (hO : okQ n q o) {i j : Nat} (hi : i < n) (hj : j < n) : 0 ≤ (if 0 ≤ (q 1 i - q 1 j) then (q 1 i - q 1 j) else -(q 1 i - q 1 j)) + (farZ (q 2 i) (q 3 i) (q 2 j) (q 3 j)) + (if 0 ≤ (q 4 i - q 4 j) then (q 4 i - q 4 j) else -(q 4 i - q 4 j)) ∧ (if 0 ≤ (q 1 i - q 1 j) then (q 1 i - q 1 j) else -(q 1 i - q 1 j)) + (farZ (q 2 i) (q 3 i) (q 2 j) (q 3 j)) + (if 0 ≤ (q 4 i - q 4 j) then (q 4 i - q 4 j) else -(q 4 i - q 4 j)) ≤ 5000 := by
  have hn40 := hO.1
  have hf1 := farZ_b (hO.x i (by omega)) (hO.y i (by omega)) (hO.x j (by omega)) (hO.y j (by omega))
  have hd1 := hO.d i (by omega)
  have hd2 := hO.d j (by omega)
  have hg1 := hO.g i (by omega)
  have hg2 := hO.g j (by omega)
  have ha : 0 ≤ (if 0 ≤ (q 1 i - q 1 j) then (q 1 i - q 1 j) else -(q 1 i - q 1 j)) ∧ (if 0 ≤ (q 1 i - q 1 j) then (q 1 i - q 1 j) else -(q 1 i - q 1 j)) ≤ 3999 := by split <;> omega
  have hb : 0 ≤ (if 0 ≤ (q 4 i - q 4 j) then (q 4 i - q 4 j) else -(q 4 i - q 4 j)) ∧ (if 0 ≤ (q 4 i - q 4 j) then (q 4 i - q 4 j) else -(q 4 i - q 4 j)) ≤ 90 := by split <;> omega
  omega
theorem kst_s {q : Nat → Nat → Int} {st : Nat → Int} {la lb : Nat → Nat} {pt k c : Nat} (hp : c + 1 ≤ pt) (h : (if 0 ≤ (q 1 (la k) - q 1 (lb c)) then (q 1 (la k) - q 1 (lb c)) else -(q 1 (la k) - q 1 (lb c))) ≤ st 0 ∧ (farZ (q 2 (la k)) (q 3 (la k)) (q 2 (lb c)) (q 3 (lb c))) ≤ st 1 ∧ (if 0 ≤ (q 4 (la k) - q 4 (lb c)) then (q 4 (la k) - q 4 (lb c)) else -(q 4 (la k) - q 4 (lb c))) ≤ st 2) : ((if 0 ≤ (q 1 (la k) - q 1 (lb c)) then (q 1 (la k) - q 1 (lb c)) else -(q 1 (la k) - q 1 (lb c))) + (farZ (q 2 (la k)) (q 3 (la k)) (q 2 (lb c)) (q 3 (lb c))) + (if 0 ≤ (q 4 (la k) - q 4 (lb c)) then (q 4 (la k) - q 4 (lb c)) else -(q 4 (la k) - q 4 (lb c)))) * 23298085122481 + (((c + 1 : Nat) : Int) - 1) * ((dgP (k + 1) : Nat) : Int) = kst (XJ q st la lb) pt (k + 1) (c + 1) := by
  have e : XJ q st la lb k c = (if 0 ≤ (q 1 (la k) - q 1 (lb c)) then (q 1 (la k) - q 1 (lb c)) else -(q 1 (la k) - q 1 (lb c))) + (farZ (q 2 (la k)) (q 3 (la k)) (q 2 (lb c)) (q 3 (lb c))) + (if 0 ≤ (q 4 (la k) - q 4 (lb c)) then (q 4 (la k) - q 4 (lb c)) else -(q 4 (la k) - q 4 (lb c))) := ms_y h
  unfold kst
  rw [if_pos hp, show XJ q st la lb (k + 1 - 1) (c + 1 - 1) = XJ q st la lb k c from rfl, e, if_neg (Int.not_lt.mpr mis_0)]
theorem kst_n {q : Nat → Nat → Int} {st : Nat → Int} {la lb : Nat → Nat} {pt k c : Nat} (hp : c + 1 ≤ pt) (h : ¬ ((if 0 ≤ (q 1 (la k) - q 1 (lb c)) then (q 1 (la k) - q 1 (lb c)) else -(q 1 (la k) - q 1 (lb c))) ≤ st 0 ∧ (farZ (q 2 (la k)) (q 3 (la k)) (q 2 (lb c)) (q 3 (lb c))) ≤ st 1 ∧ (if 0 ≤ (q 4 (la k) - q 4 (lb c)) then (q 4 (la k) - q 4 (lb c)) else -(q 4 (la k) - q 4 (lb c))) ≤ st 2)) : (1000000000000000000 : Int) = kst (XJ q st la lb) pt (k + 1) (c + 1) := by
  have e : XJ q st la lb (k + 1 - 1) (c + 1 - 1) = -1 := ms_n h
  unfold kst
  rw [if_pos hp, e, if_pos (by decide)]
theorem f_put {K F : Nat → Int} {c : Nat} {v : Int} (h : ∀ j, 1 ≤ j → j ≤ c → K j = F j) (hv : v = F (c + 1)) : ∀ j, 1 ≤ j → j ≤ c + 1 → fup K (c + 1) v j = F j := by
  intro j h1 h2
  by_cases e : j = c + 1
  · rw [e, fup_self]; exact hv
  · rw [fup_ne _ _ e]; exact h j h1 (by omega)
theorem r_put {C F : Nat → Nat → Int} {K : Nat → Int} {k cl : Nat} (h : ∀ i, 1 ≤ i → i ≤ k → ∀ j, 1 ≤ j → j ≤ cl → C i j = F i j) (hK : ∀ j, 1 ≤ j → j ≤ cl → K j = F (k + 1) j) : ∀ i, 1 ≤ i → i ≤ k + 1 → ∀ j, 1 ≤ j → j ≤ cl → fup C (k + 1) K i j = F i j := by
  intro i h1 h2 j h3 h4
  by_cases e : i = k + 1
  · rw [e, fup_self]; exact hK j h3 h4
  · rw [fup_ne _ _ e]; exact h i h1 (by omega) j h3 h4

set_option maxRecDepth 100000 in
set_option maxHeartbeats 4000000 in
theorem t_X3_fillCosts {nx : Nat} {h : Nat → Option PC} {n : Nat} {q : Nat → Nat → Int} {o : Nat → Nat} {pa : Int} {mi : Int} {rw_ : Nat} {pt : Nat} {cl : Nat} {u : Nat → Int} {v : Nat → Int} {sl : Nat → Int} {ro : Nat → Int} {be : Nat → Int} {re : Nat → Int} {C0 : Nat → Nat → Int} {A : Nat → Int} {B : Nat → Int} {la : Nat → Nat} {lb : Nat → Nat} {st : Nat → Int} (hQ : isQ h n q o) (hO : okQ n q o) (hJ : isJo h pa mi rw_ pt cl u v sl ro be re) (hrw : rw_ ≤ 12) (hcl : cl ≤ 24) (hre : ∀ j, j < 25 → re j = 0 ∨ re j = 1) (h14 : h 14 = some (oP 3 13 (fun i => some (15 + i)))) (hC : ∀ i, i < 13 → h (15 + i) = some (oL 2 25 (C0 i))) (h12 : h 12 = some (oA 0 12 A)) (h13 : h 13 = some (oA 0 12 B)) (hpt : pt ≤ 12) (hA : ∀ i, i < rw_ → A i = ((la i : Nat) : Int) ∧ la i < n) (hB : ∀ j, j < pt → B j = ((lb j : Nat) : Int) ∧ lb j < n) (hN : okN st) : Cx 4 (0, 0) yX3_fillCosts cX3_fillCosts 14 none [zR 11, zR 2, zI (st 0), zI (st 1), zI (st 2)] nx h (fun rr nx' l' => ∃ (C : Nat → Nat → Int), (∀ i, 1 ≤ i → i ≤ rw_ → ∀ j, 1 ≤ j → j ≤ cl → C i j = kst (XJ q st la lb) pt (i) j) ∧ rr = none ∧ nx' = nx ∧ l' = [(15, oL 2 25 (C 0)), (16, oL 2 25 (C 1)), (17, oL 2 25 (C 2)), (18, oL 2 25 (C 3)), (19, oL 2 25 (C 4)), (20, oL 2 25 (C 5)), (21, oL 2 25 (C 6)), (22, oL 2 25 (C 7)), (23, oL 2 25 (C 8)), (24, oL 2 25 (C 9)), (25, oL 2 25 (C 10)), (26, oL 2 25 (C 11)), (27, oL 2 25 (C 12))]) := by
  refine cx_of pnX3_fillCosts (Nat.le_of_ble_eq_true rfl) ?_
  intro K G hr hnm hR
  obtain ⟨h2, h3, h4, h5, h6, h7, h8, h9, h10⟩ := id hQ
  have hn40 := hO.1
  obtain ⟨h11, h28, h29, h30, h31, h32, h33⟩ := id hJ
  obtain ⟨hN0, hN1, hN2, hN3, hN4⟩ := id hN
  show Wp K 14 (Mx K h (fun rr nx' l' => ∃ (C : Nat → Nat → Int), (∀ i, 1 ≤ i → i ≤ rw_ → ∀ j, 1 ≤ j → j ≤ cl → C i j = kst (XJ q st la lb) pt (i) j) ∧ rr = none ∧ nx' = nx ∧ l' = [(15, oL 2 25 (C 0)), (16, oL 2 25 (C 1)), (17, oL 2 25 (C 2)), (18, oL 2 25 (C 3)), (19, oL 2 25 (C 4)), (20, oL 2 25 (C 5)), (21, oL 2 25 (C 6)), (22, oL 2 25 (C 7)), (23, oL 2 25 (C 8)), (24, oL 2 25 (C 9)), (25, oL 2 25 (C 10)), (26, oL 2 25 (C 11)), (27, oL 2 25 (C 12))]) (0, 0)) (0, 0) 0 [(0, zR 11), (1, zR 2), (2, zI (st 0)), (3, zI (st 1)), (4, zI (st 2))] [] (nx, h, [])
  refine wp_ldc2 (z := 23298085122481) G kX3_86 dX3_fillCosts_0 ?_
  refine wp_lstore (lv' := [(5, zJ 23298085122481), (0, zR 11), (1, zR 2), (2, zI (st 0)), (3, zI (st 1)), (4, zI (st 2))]) G dX3_fillCosts_3 (by decide) rfl ?_
  refine wp_iconst G dX3_fillCosts_5 ?_
  refine wp_istore (lv' := [(7, zI 1), (5, zJ 23298085122481), (0, zR 11), (1, zR 2), (2, zI (st 0)), (3, zI (st 1)), (4, zI (st 2))]) G dX3_fillCosts_6 (by decide) rfl ?_
  refine wp_own (r := 15) (hp2 := (nx, h, [(15, oL 2 25 (C0 0))])) (hC 0 (by decide)) rfl ?_
  refine wp_own (r := 16) (hp2 := (nx, h, [(15, oL 2 25 (C0 0)), (16, oL 2 25 (C0 1))])) (hC 1 (by decide)) rfl ?_
  refine wp_own (r := 17) (hp2 := (nx, h, [(15, oL 2 25 (C0 0)), (16, oL 2 25 (C0 1)), (17, oL 2 25 (C0 2))])) (hC 2 (by decide)) rfl ?_
  refine wp_own (r := 18) (hp2 := (nx, h, [(15, oL 2 25 (C0 0)), (16, oL 2 25 (C0 1)), (17, oL 2 25 (C0 2)), (18, oL 2 25 (C0 3))])) (hC 3 (by decide)) rfl ?_
  refine wp_own (r := 19) (hp2 := (nx, h, [(15, oL 2 25 (C0 0)), (16, oL 2 25 (C0 1)), (17, oL 2 25 (C0 2)), (18, oL 2 25 (C0 3)), (19, oL 2 25 (C0 4))])) (hC 4 (by decide)) rfl ?_
  refine wp_own (r := 20) (hp2 := (nx, h, [(15, oL 2 25 (C0 0)), (16, oL 2 25 (C0 1)), (17, oL 2 25 (C0 2)), (18, oL 2 25 (C0 3)), (19, oL 2 25 (C0 4)), (20, oL 2 25 (C0 5))])) (hC 5 (by decide)) rfl ?_
  refine wp_own (r := 21) (hp2 := (nx, h, [(15, oL 2 25 (C0 0)), (16, oL 2 25 (C0 1)), (17, oL 2 25 (C0 2)), (18, oL 2 25 (C0 3)), (19, oL 2 25 (C0 4)), (20, oL 2 25 (C0 5)), (21, oL 2 25 (C0 6))])) (hC 6 (by decide)) rfl ?_
  refine wp_own (r := 22) (hp2 := (nx, h, [(15, oL 2 25 (C0 0)), (16, oL 2 25 (C0 1)), (17, oL 2 25 (C0 2)), (18, oL 2 25 (C0 3)), (19, oL 2 25 (C0 4)), (20, oL 2 25 (C0 5)), (21, oL 2 25 (C0 6)), (22, oL 2 25 (C0 7))])) (hC 7 (by decide)) rfl ?_
  refine wp_own (r := 23) (hp2 := (nx, h, [(15, oL 2 25 (C0 0)), (16, oL 2 25 (C0 1)), (17, oL 2 25 (C0 2)), (18, oL 2 25 (C0 3)), (19, oL 2 25 (C0 4)), (20, oL 2 25 (C0 5)), (21, oL 2 25 (C0 6)), (22, oL 2 25 (C0 7)), (23, oL 2 25 (C0 8))])) (hC 8 (by decide)) rfl ?_
  refine wp_own (r := 24) (hp2 := (nx, h, [(15, oL 2 25 (C0 0)), (16, oL 2 25 (C0 1)), (17, oL 2 25 (C0 2)), (18, oL 2 25 (C0 3)), (19, oL 2 25 (C0 4)), (20, oL 2 25 (C0 5)), (21, oL 2 25 (C0 6)), (22, oL 2 25 (C0 7)), (23, oL 2 25 (C0 8)), (24, oL 2 25 (C0 9))])) (hC 9 (by decide)) rfl ?_
  refine wp_own (r := 25) (hp2 := (nx, h, [(15, oL 2 25 (C0 0)), (16, oL 2 25 (C0 1)), (17, oL 2 25 (C0 2)), (18, oL 2 25 (C0 3)), (19, oL 2 25 (C0 4)), (20, oL 2 25 (C0 5)), (21, oL 2 25 (C0 6)), (22, oL 2 25 (C0 7)), (23, oL 2 25 (C0 8)), (24, oL 2 25 (C0 9)), (25, oL 2 25 (C0 10))])) (hC 10 (by decide)) rfl ?_
  refine wp_own (r := 26) (hp2 := (nx, h, [(15, oL 2 25 (C0 0)), (16, oL 2 25 (C0 1)), (17, oL 2 25 (C0 2)), (18, oL 2 25 (C0 3)), (19, oL 2 25 (C0 4)), (20, oL 2 25 (C0 5)), (21, oL 2 25 (C0 6)), (22, oL 2 25 (C0 7)), (23, oL 2 25 (C0 8)), (24, oL 2 25 (C0 9)), (25, oL 2 25 (C0 10)), (26, oL 2 25 (C0 11))])) (hC 11 (by decide)) rfl ?_
  refine wp_own (r := 27) (hp2 := (nx, h, [(15, oL 2 25 (C0 0)), (16, oL 2 25 (C0 1)), (17, oL 2 25 (C0 2)), (18, oL 2 25 (C0 3)), (19, oL 2 25 (C0 4)), (20, oL 2 25 (C0 5)), (21, oL 2 25 (C0 6)), (22, oL 2 25 (C0 7)), (23, oL 2 25 (C0 8)), (24, oL 2 25 (C0 9)), (25, oL 2 25 (C0 10)), (26, oL 2 25 (C0 11)), (27, oL 2 25 (C0 12))])) (hC 12 (by decide)) rfl ?_
  refine wp_lv [2, 3, 4, 5, 6, 1, 0] rfl ?_
  suffices lp8 : ∀ (fu : Nat) (k : Nat) (C : Nat → Nat → Int) (v5 : Int) (v7 : Int), rw_ - k < fu → (v5 = ((dgP k : Nat) : Int)) → (v7 = ((k + 1 : Nat) : Int)) → (k ≤ rw_) → (∀ i, 1 ≤ i → i ≤ k → ∀ j, 1 ≤ j → j ≤ cl → C i j = kst (XJ q st la lb) pt (i) j) → Wp K 14 (Mx K h (fun rr nx' l' => ∃ (C : Nat → Nat → Int), (∀ i, 1 ≤ i → i ≤ rw_ → ∀ j, 1 ≤ j → j ≤ cl → C i j = kst (XJ q st la lb) pt (i) j) ∧ rr = none ∧ nx' = nx ∧ l' = [(15, oL 2 25 (C 0)), (16, oL 2 25 (C 1)), (17, oL 2 25 (C 2)), (18, oL 2 25 (C 3)), (19, oL 2 25 (C 4)), (20, oL 2 25 (C 5)), (21, oL 2 25 (C 6)), (22, oL 2 25 (C 7)), (23, oL 2 25 (C 8)), (24, oL 2 25 (C 9)), (25, oL 2 25 (C 10)), (26, oL 2 25 (C 11)), (27, oL 2 25 (C 12))]) (0, 0)) (0, 0) 8 [(0, zR 11), (1, zR 2), (2, zI (st 0)), (3, zI (st 1)), (4, zI (st 2)), (5, zJ v5), (7, zI v7)] [] (nx, h, [(15, oL 2 25 (C 0)), (16, oL 2 25 (C 1)), (17, oL 2 25 (C 2)), (18, oL 2 25 (C 3)), (19, oL 2 25 (C 4)), (20, oL 2 25 (C 5)), (21, oL 2 25 (C 6)), (22, oL 2 25 (C 7)), (23, oL 2 25 (C 8)), (24, oL 2 25 (C 9)), (25, oL 2 25 (C 10)), (26, oL 2 25 (C 11)), (27, oL 2 25 (C 12))]) from lp8 _ 0 C0 23298085122481 1 (Nat.lt_succ_self _) (by rfl) (by omega) (by omega) (by intro i h1 h2; omega)
  intro fu
  induction fu with
  | zero => intro k C v5 v7 hm; exact absurd hm (Nat.not_lt_zero _)
  | succ fu ih8 =>
    intro k C v5 v7 hm8 e5 e7 hi0 hK0
    subst e5
    subst e7
    have hdg := dg_b k
    refine wp_iload G 6 dX3_fillCosts_8 rfl ?_
    refine wp_aload_n G 0 dX3_fillCosts_10 rfl ?_
    refine wp_get G 2 cOk3 fX3_18 dX3_fillCosts_11 h11 rfl ?_
    refine wp_icmp_gt G dX3_fillCosts_14 (by omega) (by omega) (fun kq1 => ?_) (fun kq1 => ?_)
    · skip
      exact wp_vreturn G hr dX3_fillCosts_153 ⟨C, by intro i h1 h2; exact hK0 i h1 (by omega), rfl, rfl, by rfl⟩
    · skip
      rcases (show k = 0 ∨ k = 1 ∨ k = 2 ∨ k = 3 ∨ k = 4 ∨ k = 5 ∨ k = 6 ∨ k = 7 ∨ k = 8 ∨ k = 9 ∨ k = 10 ∨ k = 11 by omega) with rfl | rfl | rfl | rfl | rfl | rfl | rfl | rfl | rfl | rfl | rfl | rfl
      · skip
        refine wp_lload G 5 dX3_fillCosts_17 rfl ?_
        refine wp_ldc2 (z := 13) G kX3_88 dX3_fillCosts_19 ?_
        refine wp_ldiv G (by omega) (by omega) (by omega) (by omega) dX3_fillCosts_22 ?_
        rw [show ((((dgP 0 : Nat) : Int) / 13) : Int) = ((dgP (0 + 1) : Nat) : Int) from dg_s (by omega)]
        refine wp_lstore (lv' := [(5, zJ ((dgP (0 + 1) : Nat) : Int)), (0, zR 11), (1, zR 2), (2, zI (st 0)), (3, zI (st 1)), (4, zI (st 2)), (7, zI ((0 + 1 : Nat) : Int))]) G dX3_fillCosts_23 (by decide) rfl ?_
        refine wp_aload_n G 1 dX3_fillCosts_25 rfl ?_
        refine wp_get G 5 cOk3 fX3_27 dX3_fillCosts_26 h11 rfl ?_
        refine wp_iload G 6 dX3_fillCosts_29 rfl ?_
        refine wp_iconst G dX3_fillCosts_31 ?_
        refine wp_isub G dX3_fillCosts_32 ?_
        refine wp_iald (j := 0) G dX3_fillCosts_33 h12 (by omega) (by omega) (by decide) ?_
        rw [(hA 0 (by omega)).1]
        have hak := (hA 0 (by omega)).2
        refine wp_istore (lv' := [(8, zI ((la 0 : Nat) : Int)), (5, zJ ((dgP (0 + 1) : Nat) : Int)), (0, zR 11), (1, zR 2), (2, zI (st 0)), (3, zI (st 1)), (4, zI (st 2)), (7, zI ((0 + 1 : Nat) : Int))]) G dX3_fillCosts_34 (by decide) rfl ?_
        refine wp_iconst G dX3_fillCosts_36 ?_
        refine wp_istore (lv' := [(9, zI 1), (8, zI ((la 0 : Nat) : Int)), (5, zJ ((dgP (0 + 1) : Nat) : Int)), (0, zR 11), (1, zR 2), (2, zI (st 0)), (3, zI (st 1)), (4, zI (st 2)), (7, zI ((0 + 1 : Nat) : Int))]) G dX3_fillCosts_37 (by decide) rfl ?_
        refine wp_lv [3, 4, 5, 6, 7, 2, 8, 1, 0] rfl ?_
        suffices lp39 : ∀ (fu : Nat) (c : Nat) (Kr : Nat → Int) (v9 : Int), cl - c < fu → (v9 = ((c + 1 : Nat) : Int)) → (c ≤ cl) → (∀ j, 1 ≤ j → j ≤ c → Kr j = kst (XJ q st la lb) pt (0 + 1) j) → Wp K 14 (Mx K h (fun rr nx' l' => ∃ (C : Nat → Nat → Int), (∀ i, 1 ≤ i → i ≤ rw_ → ∀ j, 1 ≤ j → j ≤ cl → C i j = kst (XJ q st la lb) pt (i) j) ∧ rr = none ∧ nx' = nx ∧ l' = [(15, oL 2 25 (C 0)), (16, oL 2 25 (C 1)), (17, oL 2 25 (C 2)), (18, oL 2 25 (C 3)), (19, oL 2 25 (C 4)), (20, oL 2 25 (C 5)), (21, oL 2 25 (C 6)), (22, oL 2 25 (C 7)), (23, oL 2 25 (C 8)), (24, oL 2 25 (C 9)), (25, oL 2 25 (C 10)), (26, oL 2 25 (C 11)), (27, oL 2 25 (C 12))]) (0, 0)) (0, 0) 39 [(0, zR 11), (1, zR 2), (2, zI (st 0)), (3, zI (st 1)), (4, zI (st 2)), (5, zJ ((dgP (0 + 1) : Nat) : Int)), (7, zI ((0 + 1 : Nat) : Int)), (8, zI ((la 0 : Nat) : Int)), (9, zI v9)] [] (nx, h, [(15, oL 2 25 (C 0)), (16, oL 2 25 Kr), (17, oL 2 25 (C 2)), (18, oL 2 25 (C 3)), (19, oL 2 25 (C 4)), (20, oL 2 25 (C 5)), (21, oL 2 25 (C 6)), (22, oL 2 25 (C 7)), (23, oL 2 25 (C 8)), (24, oL 2 25 (C 9)), (25, oL 2 25 (C 10)), (26, oL 2 25 (C 11)), (27, oL 2 25 (C 12))]) from lp39 _ 0 (C 1) 1 (Nat.lt_succ_self _) (by omega) (by omega) (by intro j h1 h2; omega)
        intro fu
        induction fu with
        | zero => intro c Kr v9 hm; exact absurd hm (Nat.not_lt_zero _)
        | succ fu ih39 =>
          intro c Kr v9 hm39 e9 hi0 hK
          subst e9
          refine wp_iload G 8 dX3_fillCosts_39 rfl ?_
          refine wp_aload_n G 0 dX3_fillCosts_41 rfl ?_
          refine wp_get G 4 cOk3 fX3_24 dX3_fillCosts_42 h11 rfl ?_
          refine wp_icmp_gt G dX3_fillCosts_45 (by omega) (by omega) (fun kq2 => ?_) (fun kq2 => ?_)
          · skip
            refine wp_iinc (lv' := [(7, zI (((0 + 1 : Nat) : Int) + 1)), (0, zR 11), (1, zR 2), (2, zI (st 0)), (3, zI (st 1)), (4, zI (st 2)), (5, zJ ((dgP (0 + 1) : Nat) : Int)), (8, zI ((la 0 : Nat) : Int)), (9, zI ((c + 1 : Nat) : Int))]) G 6 dX3_fillCosts_147 rfl (by decide) rfl ?_
            refine wp_goto G dX3_fillCosts_150 ?_
            refine wp_lv [1, 2, 3, 4, 5, 6, 0] rfl ?_
            exact ih8 (0 + 1) (fup C (0 + 1) Kr) ((dgP (0 + 1) : Nat) : Int) (((0 + 1 : Nat) : Int) + 1) (by omega) (by rfl) (by omega) (by omega) (by exact r_put hK0 (fun j h1 h2 => hK j h1 (by omega)))
          · skip
            refine wp_ldc2 (z := 23298085122481000) G kX3_90 dX3_fillCosts_48 ?_
            refine wp_ldc2 (z := 12) G kX3_92 dX3_fillCosts_51 ?_
            refine wp_lload G 5 dX3_fillCosts_54 rfl ?_
            refine wp_lmul G dX3_fillCosts_56 ?_
            refine wp_ladd G dX3_fillCosts_57 ?_
            refine wp_lstore (lv' := [(10, zJ (23298085122481000 + (12 * ((dgP (0 + 1) : Nat) : Int)))), (0, zR 11), (1, zR 2), (2, zI (st 0)), (3, zI (st 1)), (4, zI (st 2)), (5, zJ ((dgP (0 + 1) : Nat) : Int)), (7, zI ((0 + 1 : Nat) : Int)), (8, zI ((la 0 : Nat) : Int)), (9, zI ((c + 1 : Nat) : Int))]) G dX3_fillCosts_58 (by decide) rfl ?_
            refine wp_iload G 9 dX3_fillCosts_60 rfl ?_
            refine wp_aload_n G 1 dX3_fillCosts_62 rfl ?_
            refine wp_get G 3 cOk3 fX3_21 dX3_fillCosts_63 h11 rfl ?_
            refine wp_icmp_gt G dX3_fillCosts_66 (by omega) (by omega) (fun kq3 => ?_) (fun kq3 => ?_)
            · skip
              refine wp_aload_n G 1 dX3_fillCosts_129 rfl ?_
              refine wp_get G 7 cOk3 fX3_36 dX3_fillCosts_130 h11 rfl ?_
              refine wp_iload G 7 dX3_fillCosts_133 rfl ?_
              refine wp_aald (j := 0 + 1) G (by decide) (by decide) dX3_fillCosts_135 h14 rfl (by omega) (by decide) ?_
              show Wp K 14 (Mx K h (fun rr nx' l' => ∃ (C : Nat → Nat → Int), (∀ i, 1 ≤ i → i ≤ rw_ → ∀ j, 1 ≤ j → j ≤ cl → C i j = kst (XJ q st la lb) pt (i) j) ∧ rr = none ∧ nx' = nx ∧ l' = [(15, oL 2 25 (C 0)), (16, oL 2 25 (C 1)), (17, oL 2 25 (C 2)), (18, oL 2 25 (C 3)), (19, oL 2 25 (C 4)), (20, oL 2 25 (C 5)), (21, oL 2 25 (C 6)), (22, oL 2 25 (C 7)), (23, oL 2 25 (C 8)), (24, oL 2 25 (C 9)), (25, oL 2 25 (C 10)), (26, oL 2 25 (C 11)), (27, oL 2 25 (C 12))]) (0, 0)) (0, 0) 136 [(10, zJ (23298085122481000 + (12 * ((dgP (0 + 1) : Nat) : Int)))), (0, zR 11), (1, zR 2), (2, zI (st 0)), (3, zI (st 1)), (4, zI (st 2)), (5, zJ ((dgP (0 + 1) : Nat) : Int)), (7, zI ((0 + 1 : Nat) : Int)), (8, zI ((la 0 : Nat) : Int)), (9, zI ((c + 1 : Nat) : Int))] [zR 16] (nx, h, [(15, oL 2 25 (C 0)), (16, oL 2 25 Kr), (17, oL 2 25 (C 2)), (18, oL 2 25 (C 3)), (19, oL 2 25 (C 4)), (20, oL 2 25 (C 5)), (21, oL 2 25 (C 6)), (22, oL 2 25 (C 7)), (23, oL 2 25 (C 8)), (24, oL 2 25 (C 9)), (25, oL 2 25 (C 10)), (26, oL 2 25 (C 11)), (27, oL 2 25 (C 12))])
              refine wp_iload G 9 dX3_fillCosts_136 rfl ?_
              refine wp_lload G 0 dX3_fillCosts_138 rfl ?_
              refine wp_lastE (j := c + 1) (hp2 := (nx, h, [(15, oL 2 25 (C 0)), (16, oL 2 25 (fup Kr (c + 1) (23298085122481000 + (12 * ((dgP (0 + 1) : Nat) : Int))))), (17, oL 2 25 (C 2)), (18, oL 2 25 (C 3)), (19, oL 2 25 (C 4)), (20, oL 2 25 (C 5)), (21, oL 2 25 (C 6)), (22, oL 2 25 (C 7)), (23, oL 2 25 (C 8)), (24, oL 2 25 (C 9)), (25, oL 2 25 (C 10)), (26, oL 2 25 (C 11)), (27, oL 2 25 (C 12))])) G dX3_fillCosts_140 rfl rfl (by omega) (by decide) rfl ?_
              refine wp_iinc (lv' := [(9, zI (((c + 1 : Nat) : Int) + 1)), (10, zJ (23298085122481000 + (12 * ((dgP (0 + 1) : Nat) : Int)))), (0, zR 11), (1, zR 2), (2, zI (st 0)), (3, zI (st 1)), (4, zI (st 2)), (5, zJ ((dgP (0 + 1) : Nat) : Int)), (7, zI ((0 + 1 : Nat) : Int)), (8, zI ((la 0 : Nat) : Int))]) G 9 dX3_fillCosts_141 rfl (by decide) rfl ?_
              refine wp_goto G dX3_fillCosts_144 ?_
              refine wp_lv [2, 3, 4, 5, 6, 7, 8, 9, 0] rfl ?_
              exact ih39 (c + 1) (fup Kr (c + 1) (23298085122481000 + (12 * ((dgP (0 + 1) : Nat) : Int)))) (((c + 1 : Nat) : Int) + 1) (by omega) (by omega) (by omega) (by exact f_put hK (by first | exact kst_a (by omega) | exact kst_s (by omega) (by assumption) | exact kst_n (by omega) (by assumption)))
            · skip
              refine wp_aload_n G 1 dX3_fillCosts_69 rfl ?_
              refine wp_get G 6 cOk3 fX3_31 dX3_fillCosts_70 h11 rfl ?_
              refine wp_iload G 9 dX3_fillCosts_73 rfl ?_
              refine wp_iconst G dX3_fillCosts_75 ?_
              refine wp_isub G dX3_fillCosts_76 ?_
              refine wp_iald (j := c) G dX3_fillCosts_77 h13 (by omega) (by omega) (by decide) ?_
              rw [(hB c (by omega)).1]
              have hbc := (hB c (by omega)).2
              have hmb := mis_b hO hak hbc
              refine wp_istore (lv' := [(12, zI ((lb c : Nat) : Int)), (10, zJ (23298085122481000 + (12 * ((dgP (0 + 1) : Nat) : Int)))), (0, zR 11), (1, zR 2), (2, zI (st 0)), (3, zI (st 1)), (4, zI (st 2)), (5, zJ ((dgP (0 + 1) : Nat) : Int)), (7, zI ((0 + 1 : Nat) : Int)), (8, zI ((la 0 : Nat) : Int)), (9, zI ((c + 1 : Nat) : Int))]) G dX3_fillCosts_78 (by decide) rfl ?_
              refine wp_aload_n G 3 dX3_fillCosts_80 rfl ?_
              refine wp_iload G 9 dX3_fillCosts_81 rfl ?_
              refine wp_iload G 0 dX3_fillCosts_83 rfl ?_
              refine wp_iload_n G 4 dX3_fillCosts_85 rfl ?_
              refine wp_iload_n G 5 dX3_fillCosts_86 rfl ?_
              refine wp_iload G 6 dX3_fillCosts_87 rfl ?_
              refine wp_cSE (as := [zR 2, zI ((la 0 : Nat) : Int), zI ((lb c : Nat) : Int), zI (st 0), zI (st 1), zI (st 2)]) (rest := []) (hp2 := (nx, h, [(15, oL 2 25 (C 0)), (16, oL 2 25 Kr), (17, oL 2 25 (C 2)), (18, oL 2 25 (C 3)), (19, oL 2 25 (C 4)), (20, oL 2 25 (C 5)), (21, oL 2 25 (C 6)), (22, oL 2 25 (C 7)), (23, oL 2 25 (C 8)), (24, oL 2 25 (C 9)), (25, oL 2 25 (C 10)), (26, oL 2 25 (C 11)), (27, oL 2 25 (C 12))])) G mX3_maySame lX3_94 sX3_maySame dX3_fillCosts_89 rfl rfl (Nat.le_of_ble_eq_true rfl) (rmx_ok hR (by decide) (by decide) (by decide) (by decide)) (t_X3_maySame (nx := nx) (i := (la 0)) (j := (lb c)) (dd := (st 0)) (ff := (st 1)) (tt := (st 2)) hQ hO (by omega) (by omega) (by omega) (by omega) (by omega)) rfl ?_
              refine wp_istore (lv' := [(13, zI (bt ((if 0 ≤ (q 1 (la 0) - q 1 (lb c)) then (q 1 (la 0) - q 1 (lb c)) else -(q 1 (la 0) - q 1 (lb c))) ≤ (st 0) ∧ (farZ (q 2 (la 0)) (q 3 (la 0)) (q 2 (lb c)) (q 3 (lb c))) ≤ (st 1) ∧ (if 0 ≤ (q 4 (la 0) - q 4 (lb c)) then (q 4 (la 0) - q 4 (lb c)) else -(q 4 (la 0) - q 4 (lb c))) ≤ (st 2)))), (12, zI ((lb c : Nat) : Int)), (10, zJ (23298085122481000 + (12 * ((dgP (0 + 1) : Nat) : Int)))), (0, zR 11), (1, zR 2), (2, zI (st 0)), (3, zI (st 1)), (4, zI (st 2)), (5, zJ ((dgP (0 + 1) : Nat) : Int)), (7, zI ((0 + 1 : Nat) : Int)), (8, zI ((la 0 : Nat) : Int)), (9, zI ((c + 1 : Nat) : Int))]) G dX3_fillCosts_92 (by decide) rfl ?_
              refine wp_iload G 0 dX3_fillCosts_94 rfl ?_
              refine wp_ifeq_bt G dX3_fillCosts_96 (fun kq4 => ?_) (fun kq4 => ?_)
              · skip
                refine wp_ldc2 (z := 1000000000000000000) G kX3_102 dX3_fillCosts_124 ?_
                refine wp_lstore (lv' := [(10, zJ 1000000000000000000), (13, zI (bt ((if 0 ≤ (q 1 (la 0) - q 1 (lb c)) then (q 1 (la 0) - q 1 (lb c)) else -(q 1 (la 0) - q 1 (lb c))) ≤ (st 0) ∧ (farZ (q 2 (la 0)) (q 3 (la 0)) (q 2 (lb c)) (q 3 (lb c))) ≤ (st 1) ∧ (if 0 ≤ (q 4 (la 0) - q 4 (lb c)) then (q 4 (la 0) - q 4 (lb c)) else -(q 4 (la 0) - q 4 (lb c))) ≤ (st 2)))), (12, zI ((lb c : Nat) : Int)), (0, zR 11), (1, zR 2), (2, zI (st 0)), (3, zI (st 1)), (4, zI (st 2)), (5, zJ ((dgP (0 + 1) : Nat) : Int)), (7, zI ((0 + 1 : Nat) : Int)), (8, zI ((la 0 : Nat) : Int)), (9, zI ((c + 1 : Nat) : Int))]) G dX3_fillCosts_127 (by decide) rfl ?_
                refine wp_aload_n G 3 dX3_fillCosts_129 rfl ?_
                refine wp_get G 7 cOk3 fX3_36 dX3_fillCosts_130 h11 rfl ?_
                refine wp_iload G 9 dX3_fillCosts_133 rfl ?_
                refine wp_aald (j := 0 + 1) G (by decide) (by decide) dX3_fillCosts_135 h14 rfl (by omega) (by decide) ?_
                show Wp K 14 (Mx K h (fun rr nx' l' => ∃ (C : Nat → Nat → Int), (∀ i, 1 ≤ i → i ≤ rw_ → ∀ j, 1 ≤ j → j ≤ cl → C i j = kst (XJ q st la lb) pt (i) j) ∧ rr = none ∧ nx' = nx ∧ l' = [(15, oL 2 25 (C 0)), (16, oL 2 25 (C 1)), (17, oL 2 25 (C 2)), (18, oL 2 25 (C 3)), (19, oL 2 25 (C 4)), (20, oL 2 25 (C 5)), (21, oL 2 25 (C 6)), (22, oL 2 25 (C 7)), (23, oL 2 25 (C 8)), (24, oL 2 25 (C 9)), (25, oL 2 25 (C 10)), (26, oL 2 25 (C 11)), (27, oL 2 25 (C 12))]) (0, 0)) (0, 0) 136 [(10, zJ 1000000000000000000), (13, zI (bt ((if 0 ≤ (q 1 (la 0) - q 1 (lb c)) then (q 1 (la 0) - q 1 (lb c)) else -(q 1 (la 0) - q 1 (lb c))) ≤ (st 0) ∧ (farZ (q 2 (la 0)) (q 3 (la 0)) (q 2 (lb c)) (q 3 (lb c))) ≤ (st 1) ∧ (if 0 ≤ (q 4 (la 0) - q 4 (lb c)) then (q 4 (la 0) - q 4 (lb c)) else -(q 4 (la 0) - q 4 (lb c))) ≤ (st 2)))), (12, zI ((lb c : Nat) : Int)), (0, zR 11), (1, zR 2), (2, zI (st 0)), (3, zI (st 1)), (4, zI (st 2)), (5, zJ ((dgP (0 + 1) : Nat) : Int)), (7, zI ((0 + 1 : Nat) : Int)), (8, zI ((la 0 : Nat) : Int)), (9, zI ((c + 1 : Nat) : Int))] [zR 16] (nx, h, [(15, oL 2 25 (C 0)), (16, oL 2 25 Kr), (17, oL 2 25 (C 2)), (18, oL 2 25 (C 3)), (19, oL 2 25 (C 4)), (20, oL 2 25 (C 5)), (21, oL 2 25 (C 6)), (22, oL 2 25 (C 7)), (23, oL 2 25 (C 8)), (24, oL 2 25 (C 9)), (25, oL 2 25 (C 10)), (26, oL 2 25 (C 11)), (27, oL 2 25 (C 12))])
                refine wp_iload G 11 dX3_fillCosts_136 rfl ?_
                refine wp_lload G 0 dX3_fillCosts_138 rfl ?_
                refine wp_lastE (j := c + 1) (hp2 := (nx, h, [(15, oL 2 25 (C 0)), (16, oL 2 25 (fup Kr (c + 1) 1000000000000000000)), (17, oL 2 25 (C 2)), (18, oL 2 25 (C 3)), (19, oL 2 25 (C 4)), (20, oL 2 25 (C 5)), (21, oL 2 25 (C 6)), (22, oL 2 25 (C 7)), (23, oL 2 25 (C 8)), (24, oL 2 25 (C 9)), (25, oL 2 25 (C 10)), (26, oL 2 25 (C 11)), (27, oL 2 25 (C 12))])) G dX3_fillCosts_140 rfl rfl (by omega) (by decide) rfl ?_
                refine wp_iinc (lv' := [(9, zI (((c + 1 : Nat) : Int) + 1)), (10, zJ 1000000000000000000), (13, zI (bt ((if 0 ≤ (q 1 (la 0) - q 1 (lb c)) then (q 1 (la 0) - q 1 (lb c)) else -(q 1 (la 0) - q 1 (lb c))) ≤ (st 0) ∧ (farZ (q 2 (la 0)) (q 3 (la 0)) (q 2 (lb c)) (q 3 (lb c))) ≤ (st 1) ∧ (if 0 ≤ (q 4 (la 0) - q 4 (lb c)) then (q 4 (la 0) - q 4 (lb c)) else -(q 4 (la 0) - q 4 (lb c))) ≤ (st 2)))), (12, zI ((lb c : Nat) : Int)), (0, zR 11), (1, zR 2), (2, zI (st 0)), (3, zI (st 1)), (4, zI (st 2)), (5, zJ ((dgP (0 + 1) : Nat) : Int)), (7, zI ((0 + 1 : Nat) : Int)), (8, zI ((la 0 : Nat) : Int))]) G 11 dX3_fillCosts_141 rfl (by decide) rfl ?_
                refine wp_goto G dX3_fillCosts_144 ?_
                refine wp_lv [4, 5, 6, 7, 8, 9, 10, 11, 0] rfl ?_
                exact ih39 (c + 1) (fup Kr (c + 1) 1000000000000000000) (((c + 1 : Nat) : Int) + 1) (by omega) (by omega) (by omega) (by exact f_put hK (by first | exact kst_a (by omega) | exact kst_s (by omega) (by assumption) | exact kst_n (by omega) (by assumption)))
              · skip
                refine wp_aload_n G 4 dX3_fillCosts_99 rfl ?_
                refine wp_iload G 10 dX3_fillCosts_100 rfl ?_
                refine wp_iload G 1 dX3_fillCosts_102 rfl ?_
                refine wp_cSE (as := [zR 2, zI ((la 0 : Nat) : Int), zI ((lb c : Nat) : Int)]) (rest := []) (hp2 := (nx, h, [(15, oL 2 25 (C 0)), (16, oL 2 25 Kr), (17, oL 2 25 (C 2)), (18, oL 2 25 (C 3)), (19, oL 2 25 (C 4)), (20, oL 2 25 (C 5)), (21, oL 2 25 (C 6)), (22, oL 2 25 (C 7)), (23, oL 2 25 (C 8)), (24, oL 2 25 (C 9)), (25, oL 2 25 (C 10)), (26, oL 2 25 (C 11)), (27, oL 2 25 (C 12))])) G mX3_missOf lX3_98 sX3_missOf dX3_fillCosts_104 rfl rfl (Nat.le_of_ble_eq_true rfl) (rmx_ok hR (by decide) (by decide) (by decide) (by decide)) (t_X3_missOf (nx := nx) (i := (la 0)) (j := (lb c)) hQ hO (by omega) (by omega)) rfl ?_
                refine wp_i2l G (by omega) dX3_fillCosts_107 ?_
                refine wp_ldc2 (z := 23298085122481) G kX3_86 dX3_fillCosts_108 ?_
                refine wp_lmul G dX3_fillCosts_111 ?_
                refine wp_iload G 11 dX3_fillCosts_112 rfl ?_
                refine wp_iconst G dX3_fillCosts_114 ?_
                refine wp_isub G dX3_fillCosts_115 ?_
                refine wp_i2l G (by omega) dX3_fillCosts_116 ?_
                refine wp_lload G 8 dX3_fillCosts_117 rfl ?_
                refine wp_lmul G dX3_fillCosts_119 ?_
                refine wp_ladd G dX3_fillCosts_120 ?_
                refine wp_goto G dX3_fillCosts_121 ?_
                refine wp_lstore (lv' := [(10, zJ ((((if 0 ≤ (q 1 (la 0) - q 1 (lb c)) then (q 1 (la 0) - q 1 (lb c)) else -(q 1 (la 0) - q 1 (lb c))) + (farZ (q 2 (la 0)) (q 3 (la 0)) (q 2 (lb c)) (q 3 (lb c))) + (if 0 ≤ (q 4 (la 0) - q 4 (lb c)) then (q 4 (la 0) - q 4 (lb c)) else -(q 4 (la 0) - q 4 (lb c)))) * 23298085122481) + ((((c + 1 : Nat) : Int) - 1) * ((dgP (0 + 1) : Nat) : Int)))), (13, zI (bt ((if 0 ≤ (q 1 (la 0) - q 1 (lb c)) then (q 1 (la 0) - q 1 (lb c)) else -(q 1 (la 0) - q 1 (lb c))) ≤ (st 0) ∧ (farZ (q 2 (la 0)) (q 3 (la 0)) (q 2 (lb c)) (q 3 (lb c))) ≤ (st 1) ∧ (if 0 ≤ (q 4 (la 0) - q 4 (lb c)) then (q 4 (la 0) - q 4 (lb c)) else -(q 4 (la 0) - q 4 (lb c))) ≤ (st 2)))), (12, zI ((lb c : Nat) : Int)), (0, zR 11), (1, zR 2), (2, zI (st 0)), (3, zI (st 1)), (4, zI (st 2)), (5, zJ ((dgP (0 + 1) : Nat) : Int)), (7, zI ((0 + 1 : Nat) : Int)), (8, zI ((la 0 : Nat) : Int)), (9, zI ((c + 1 : Nat) : Int))]) G dX3_fillCosts_127 (by decide) rfl ?_
                refine wp_aload_n G 3 dX3_fillCosts_129 rfl ?_
                refine wp_get G 7 cOk3 fX3_36 dX3_fillCosts_130 h11 rfl ?_
                refine wp_iload G 9 dX3_fillCosts_133 rfl ?_
                refine wp_aald (j := 0 + 1) G (by decide) (by decide) dX3_fillCosts_135 h14 rfl (by omega) (by decide) ?_
                show Wp K 14 (Mx K h (fun rr nx' l' => ∃ (C : Nat → Nat → Int), (∀ i, 1 ≤ i → i ≤ rw_ → ∀ j, 1 ≤ j → j ≤ cl → C i j = kst (XJ q st la lb) pt (i) j) ∧ rr = none ∧ nx' = nx ∧ l' = [(15, oL 2 25 (C 0)), (16, oL 2 25 (C 1)), (17, oL 2 25 (C 2)), (18, oL 2 25 (C 3)), (19, oL 2 25 (C 4)), (20, oL 2 25 (C 5)), (21, oL 2 25 (C 6)), (22, oL 2 25 (C 7)), (23, oL 2 25 (C 8)), (24, oL 2 25 (C 9)), (25, oL 2 25 (C 10)), (26, oL 2 25 (C 11)), (27, oL 2 25 (C 12))]) (0, 0)) (0, 0) 136 [(10, zJ ((((if 0 ≤ (q 1 (la 0) - q 1 (lb c)) then (q 1 (la 0) - q 1 (lb c)) else -(q 1 (la 0) - q 1 (lb c))) + (farZ (q 2 (la 0)) (q 3 (la 0)) (q 2 (lb c)) (q 3 (lb c))) + (if 0 ≤ (q 4 (la 0) - q 4 (lb c)) then (q 4 (la 0) - q 4 (lb c)) else -(q 4 (la 0) - q 4 (lb c)))) * 23298085122481) + ((((c + 1 : Nat) : Int) - 1) * ((dgP (0 + 1) : Nat) : Int)))), (13, zI (bt ((if 0 ≤ (q 1 (la 0) - q 1 (lb c)) then (q 1 (la 0) - q 1 (lb c)) else -(q 1 (la 0) - q 1 (lb c))) ≤ (st 0) ∧ (farZ (q 2 (la 0)) (q 3 (la 0)) (q 2 (lb c)) (q 3 (lb c))) ≤ (st 1) ∧ (if 0 ≤ (q 4 (la 0) - q 4 (lb c)) then (q 4 (la 0) - q 4 (lb c)) else -(q 4 (la 0) - q 4 (lb c))) ≤ (st 2)))), (12, zI ((lb c : Nat) : Int)), (0, zR 11), (1, zR 2), (2, zI (st 0)), (3, zI (st 1)), (4, zI (st 2)), (5, zJ ((dgP (0 + 1) : Nat) : Int)), (7, zI ((0 + 1 : Nat) : Int)), (8, zI ((la 0 : Nat) : Int)), (9, zI ((c + 1 : Nat) : Int))] [zR 16] (nx, h, [(15, oL 2 25 (C 0)), (16, oL 2 25 Kr), (17, oL 2 25 (C 2)), (18, oL 2 25 (C 3)), (19, oL 2 25 (C 4)), (20, oL 2 25 (C 5)), (21, oL 2 25 (C 6)), (22, oL 2 25 (C 7)), (23, oL 2 25 (C 8)), (24, oL 2 25 (C 9)), (25, oL 2 25 (C 10)), (26, oL 2 25 (C 11)), (27, oL 2 25 (C 12))])
                refine wp_iload G 11 dX3_fillCosts_136 rfl ?_
                refine wp_lload G 0 dX3_fillCosts_138 rfl ?_
                refine wp_lastE (j := c + 1) (hp2 := (nx, h, [(15, oL 2 25 (C 0)), (16, oL 2 25 (fup Kr (c + 1) ((((if 0 ≤ (q 1 (la 0) - q 1 (lb c)) then (q 1 (la 0) - q 1 (lb c)) else -(q 1 (la 0) - q 1 (lb c))) + (farZ (q 2 (la 0)) (q 3 (la 0)) (q 2 (lb c)) (q 3 (lb c))) + (if 0 ≤ (q 4 (la 0) - q 4 (lb c)) then (q 4 (la 0) - q 4 (lb c)) else -(q 4 (la 0) - q 4 (lb c)))) * 23298085122481) + ((((c + 1 : Nat) : Int) - 1) * ((dgP (0 + 1) : Nat) : Int))))), (17, oL 2 25 (C 2)), (18, oL 2 25 (C 3)), (19, oL 2 25 (C 4)), (20, oL 2 25 (C 5)), (21, oL 2 25 (C 6)), (22, oL 2 25 (C 7)), (23, oL 2 25 (C 8)), (24, oL 2 25 (C 9)), (25, oL 2 25 (C 10)), (26, oL 2 25 (C 11)), (27, oL 2 25 (C 12))])) G dX3_fillCosts_140 rfl rfl (by omega) (by decide) rfl ?_
                refine wp_iinc (lv' := [(9, zI (((c + 1 : Nat) : Int) + 1)), (10, zJ ((((if 0 ≤ (q 1 (la 0) - q 1 (lb c)) then (q 1 (la 0) - q 1 (lb c)) else -(q 1 (la 0) - q 1 (lb c))) + (farZ (q 2 (la 0)) (q 3 (la 0)) (q 2 (lb c)) (q 3 (lb c))) + (if 0 ≤ (q 4 (la 0) - q 4 (lb c)) then (q 4 (la 0) - q 4 (lb c)) else -(q 4 (la 0) - q 4 (lb c)))) * 23298085122481) + ((((c + 1 : Nat) : Int) - 1) * ((dgP (0 + 1) : Nat) : Int)))), (13, zI (bt ((if 0 ≤ (q 1 (la 0) - q 1 (lb c)) then (q 1 (la 0) - q 1 (lb c)) else -(q 1 (la 0) - q 1 (lb c))) ≤ (st 0) ∧ (farZ (q 2 (la 0)) (q 3 (la 0)) (q 2 (lb c)) (q 3 (lb c))) ≤ (st 1) ∧ (if 0 ≤ (q 4 (la 0) - q 4 (lb c)) then (q 4 (la 0) - q 4 (lb c)) else -(q 4 (la 0) - q 4 (lb c))) ≤ (st 2)))), (12, zI ((lb c : Nat) : Int)), (0, zR 11), (1, zR 2), (2, zI (st 0)), (3, zI (st 1)), (4, zI (st 2)), (5, zJ ((dgP (0 + 1) : Nat) : Int)), (7, zI ((0 + 1 : Nat) : Int)), (8, zI ((la 0 : Nat) : Int))]) G 11 dX3_fillCosts_141 rfl (by decide) rfl ?_
                refine wp_goto G dX3_fillCosts_144 ?_
                refine wp_lv [4, 5, 6, 7, 8, 9, 10, 11, 0] rfl ?_
                exact ih39 (c + 1) (fup Kr (c + 1) ((((if 0 ≤ (q 1 (la 0) - q 1 (lb c)) then (q 1 (la 0) - q 1 (lb c)) else -(q 1 (la 0) - q 1 (lb c))) + (farZ (q 2 (la 0)) (q 3 (la 0)) (q 2 (lb c)) (q 3 (lb c))) + (if 0 ≤ (q 4 (la 0) - q 4 (lb c)) then (q 4 (la 0) - q 4 (lb c)) else -(q 4 (la 0) - q 4 (lb c)))) * 23298085122481) + ((((c + 1 : Nat) : Int) - 1) * ((dgP (0 + 1) : Nat) : Int)))) (((c + 1 : Nat) : Int) + 1) (by omega) (by omega) (by omega) (by exact f_put hK (by first | exact kst_a (by omega) | exact kst_s (by omega) (by assumption) | exact kst_n (by omega) (by assumption)))
      · skip
        refine wp_lload G 5 dX3_fillCosts_17 rfl ?_
        refine wp_ldc2 (z := 13) G kX3_88 dX3_fillCosts_19 ?_
        refine wp_ldiv G (by omega) (by omega) (by omega) (by omega) dX3_fillCosts_22 ?_
        rw [show ((((dgP 1 : Nat) : Int) / 13) : Int) = ((dgP (1 + 1) : Nat) : Int) from dg_s (by omega)]
        refine wp_lstore (lv' := [(5, zJ ((dgP (1 + 1) : Nat) : Int)), (0, zR 11), (1, zR 2), (2, zI (st 0)), (3, zI (st 1)), (4, zI (st 2)), (7, zI ((1 + 1 : Nat) : Int))]) G dX3_fillCosts_23 (by decide) rfl ?_
        refine wp_aload_n G 1 dX3_fillCosts_25 rfl ?_
        refine wp_get G 5 cOk3 fX3_27 dX3_fillCosts_26 h11 rfl ?_
        refine wp_iload G 6 dX3_fillCosts_29 rfl ?_
        refine wp_iconst G dX3_fillCosts_31 ?_
        refine wp_isub G dX3_fillCosts_32 ?_
        refine wp_iald (j := 1) G dX3_fillCosts_33 h12 (by omega) (by omega) (by decide) ?_
        rw [(hA 1 (by omega)).1]
        have hak := (hA 1 (by omega)).2
        refine wp_istore (lv' := [(8, zI ((la 1 : Nat) : Int)), (5, zJ ((dgP (1 + 1) : Nat) : Int)), (0, zR 11), (1, zR 2), (2, zI (st 0)), (3, zI (st 1)), (4, zI (st 2)), (7, zI ((1 + 1 : Nat) : Int))]) G dX3_fillCosts_34 (by decide) rfl ?_
        refine wp_iconst G dX3_fillCosts_36 ?_
        refine wp_istore (lv' := [(9, zI 1), (8, zI ((la 1 : Nat) : Int)), (5, zJ ((dgP (1 + 1) : Nat) : Int)), (0, zR 11), (1, zR 2), (2, zI (st 0)), (3, zI (st 1)), (4, zI (st 2)), (7, zI ((1 + 1 : Nat) : Int))]) G dX3_fillCosts_37 (by decide) rfl ?_
        refine wp_lv [3, 4, 5, 6, 7, 2, 8, 1, 0] rfl ?_
        suffices lp39 : ∀ (fu : Nat) (c : Nat) (Kr : Nat → Int) (v9 : Int), cl - c < fu → (v9 = ((c + 1 : Nat) : Int)) → (c ≤ cl) → (∀ j, 1 ≤ j → j ≤ c → Kr j = kst (XJ q st la lb) pt (1 + 1) j) → Wp K 14 (Mx K h (fun rr nx' l' => ∃ (C : Nat → Nat → Int), (∀ i, 1 ≤ i → i ≤ rw_ → ∀ j, 1 ≤ j → j ≤ cl → C i j = kst (XJ q st la lb) pt (i) j) ∧ rr = none ∧ nx' = nx ∧ l' = [(15, oL 2 25 (C 0)), (16, oL 2 25 (C 1)), (17, oL 2 25 (C 2)), (18, oL 2 25 (C 3)), (19, oL 2 25 (C 4)), (20, oL 2 25 (C 5)), (21, oL 2 25 (C 6)), (22, oL 2 25 (C 7)), (23, oL 2 25 (C 8)), (24, oL 2 25 (C 9)), (25, oL 2 25 (C 10)), (26, oL 2 25 (C 11)), (27, oL 2 25 (C 12))]) (0, 0)) (0, 0) 39 [(0, zR 11), (1, zR 2), (2, zI (st 0)), (3, zI (st 1)), (4, zI (st 2)), (5, zJ ((dgP (1 + 1) : Nat) : Int)), (7, zI ((1 + 1 : Nat) : Int)), (8, zI ((la 1 : Nat) : Int)), (9, zI v9)] [] (nx, h, [(15, oL 2 25 (C 0)), (16, oL 2 25 (C 1)), (17, oL 2 25 Kr), (18, oL 2 25 (C 3)), (19, oL 2 25 (C 4)), (20, oL 2 25 (C 5)), (21, oL 2 25 (C 6)), (22, oL 2 25 (C 7)), (23, oL 2 25 (C 8)), (24, oL 2 25 (C 9)), (25, oL 2 25 (C 10)), (26, oL 2 25 (C 11)), (27, oL 2 25 (C 12))]) from lp39 _ 0 (C 2) 1 (Nat.lt_succ_self _) (by omega) (by omega) (by intro j h1 h2; omega)
        intro fu
        induction fu with
        | zero => intro c Kr v9 hm; exact absurd hm (Nat.not_lt_zero _)
        | succ fu ih39 =>
          intro c Kr v9 hm39 e9 hi0 hK
          subst e9
          refine wp_iload G 8 dX3_fillCosts_39 rfl ?_
          refine wp_aload_n G 0 dX3_fillCosts_41 rfl ?_
          refine wp_get G 4 cOk3 fX3_24 dX3_fillCosts_42 h11 rfl ?_
          refine wp_icmp_gt G dX3_fillCosts_45 (by omega) (by omega) (fun kq5 => ?_) (fun kq5 => ?_)
          · skip
            refine wp_iinc (lv' := [(7, zI (((1 + 1 : Nat) : Int) + 1)), (0, zR 11), (1, zR 2), (2, zI (st 0)), (3, zI (st 1)), (4, zI (st 2)), (5, zJ ((dgP (1 + 1) : Nat) : Int)), (8, zI ((la 1 : Nat) : Int)), (9, zI ((c + 1 : Nat) : Int))]) G 6 dX3_fillCosts_147 rfl (by decide) rfl ?_
            refine wp_goto G dX3_fillCosts_150 ?_
            refine wp_lv [1, 2, 3, 4, 5, 6, 0] rfl ?_
            exact ih8 (1 + 1) (fup C (1 + 1) Kr) ((dgP (1 + 1) : Nat) : Int) (((1 + 1 : Nat) : Int) + 1) (by omega) (by rfl) (by omega) (by omega) (by exact r_put hK0 (fun j h1 h2 => hK j h1 (by omega)))
          · skip
            refine wp_ldc2 (z := 23298085122481000) G kX3_90 dX3_fillCosts_48 ?_
            refine wp_ldc2 (z := 12) G kX3_92 dX3_fillCosts_51 ?_
            refine wp_lload G 5 dX3_fillCosts_54 rfl ?_
            refine wp_lmul G dX3_fillCosts_56 ?_
            refine wp_ladd G dX3_fillCosts_57 ?_
            refine wp_lstore (lv' := [(10, zJ (23298085122481000 + (12 * ((dgP (1 + 1) : Nat) : Int)))), (0, zR 11), (1, zR 2), (2, zI (st 0)), (3, zI (st 1)), (4, zI (st 2)), (5, zJ ((dgP (1 + 1) : Nat) : Int)), (7, zI ((1 + 1 : Nat) : Int)), (8, zI ((la 1 : Nat) : Int)), (9, zI ((c + 1 : Nat) : Int))]) G dX3_fillCosts_58 (by decide) rfl ?_
            refine wp_iload G 9 dX3_fillCosts_60 rfl ?_
            refine wp_aload_n G 1 dX3_fillCosts_62 rfl ?_
            refine wp_get G 3 cOk3 fX3_21 dX3_fillCosts_63 h11 rfl ?_
            refine wp_icmp_gt G dX3_fillCosts_66 (by omega) (by omega) (fun kq6 => ?_) (fun kq6 => ?_)
            · skip
              refine wp_aload_n G 1 dX3_fillCosts_129 rfl ?_
              refine wp_get G 7 cOk3 fX3_36 dX3_fillCosts_130 h11 rfl ?_
              refine wp_iload G 7 dX3_fillCosts_133 rfl ?_
              refine wp_aald (j := 1 + 1) G (by decide) (by decide) dX3_fillCosts_135 h14 rfl (by omega) (by decide) ?_
              show Wp K 14 (Mx K h (fun rr nx' l' => ∃ (C : Nat → Nat → Int), (∀ i, 1 ≤ i → i ≤ rw_ → ∀ j, 1 ≤ j → j ≤ cl → C i j = kst (XJ q st la lb) pt (i) j) ∧ rr = none ∧ nx' = nx ∧ l' = [(15, oL 2 25 (C 0)), (16, oL 2 25 (C 1)), (17, oL 2 25 (C 2)), (18, oL 2 25 (C 3)), (19, oL 2 25 (C 4)), (20, oL 2 25 (C 5)), (21, oL 2 25 (C 6)), (22, oL 2 25 (C 7)), (23, oL 2 25 (C 8)), (24, oL 2 25 (C 9)), (25, oL 2 25 (C 10)), (26, oL 2 25 (C 11)), (27, oL 2 25 (C 12))]) (0, 0)) (0, 0) 136 [(10, zJ (23298085122481000 + (12 * ((dgP (1 + 1) : Nat) : Int)))), (0, zR 11), (1, zR 2), (2, zI (st 0)), (3, zI (st 1)), (4, zI (st 2)), (5, zJ ((dgP (1 + 1) : Nat) : Int)), (7, zI ((1 + 1 : Nat) : Int)), (8, zI ((la 1 : Nat) : Int)), (9, zI ((c + 1 : Nat) : Int))] [zR 17] (nx, h, [(15, oL 2 25 (C 0)), (16, oL 2 25 (C 1)), (17, oL 2 25 Kr), (18, oL 2 25 (C 3)), (19, oL 2 25 (C 4)), (20, oL 2 25 (C 5)), (21, oL 2 25 (C 6)), (22, oL 2 25 (C 7)), (23, oL 2 25 (C 8)), (24, oL 2 25 (C 9)), (25, oL 2 25 (C 10)), (26, oL 2 25 (C 11)), (27, oL 2 25 (C 12))])
              refine wp_iload G 9 dX3_fillCosts_136 rfl ?_
              refine wp_lload G 0 dX3_fillCosts_138 rfl ?_
              refine wp_lastE (j := c + 1) (hp2 := (nx, h, [(15, oL 2 25 (C 0)), (16, oL 2 25 (C 1)), (17, oL 2 25 (fup Kr (c + 1) (23298085122481000 + (12 * ((dgP (1 + 1) : Nat) : Int))))), (18, oL 2 25 (C 3)), (19, oL 2 25 (C 4)), (20, oL 2 25 (C 5)), (21, oL 2 25 (C 6)), (22, oL 2 25 (C 7)), (23, oL 2 25 (C 8)), (24, oL 2 25 (C 9)), (25, oL 2 25 (C 10)), (26, oL 2 25 (C 11)), (27, oL 2 25 (C 12))])) G dX3_fillCosts_140 rfl rfl (by omega) (by decide) rfl ?_
              refine wp_iinc (lv' := [(9, zI (((c + 1 : Nat) : Int) + 1)), (10, zJ (23298085122481000 + (12 * ((dgP (1 + 1) : Nat) : Int)))), (0, zR 11), (1, zR 2), (2, zI (st 0)), (3, zI (st 1)), (4, zI (st 2)), (5, zJ ((dgP (1 + 1) : Nat) : Int)), (7, zI ((1 + 1 : Nat) : Int)), (8, zI ((la 1 : Nat) : Int))]) G 9 dX3_fillCosts_141 rfl (by decide) rfl ?_
              refine wp_goto G dX3_fillCosts_144 ?_
              refine wp_lv [2, 3, 4, 5, 6, 7, 8, 9, 0] rfl ?_
              exact ih39 (c + 1) (fup Kr (c + 1) (23298085122481000 + (12 * ((dgP (1 + 1) : Nat) : Int)))) (((c + 1 : Nat) : Int) + 1) (by omega) (by omega) (by omega) (by exact f_put hK (by first | exact kst_a (by omega) | exact kst_s (by omega) (by assumption) | exact kst_n (by omega) (by assumption)))
            · skip
              refine wp_aload_n G 1 dX3_fillCosts_69 rfl ?_
              refine wp_get G 6 cOk3 fX3_31 dX3_fillCosts_70 h11 rfl ?_
              refine wp_iload G 9 dX3_fillCosts_73 rfl ?_
              refine wp_iconst G dX3_fillCosts_75 ?_
              refine wp_isub G dX3_fillCosts_76 ?_
              refine wp_iald (j := c) G dX3_fillCosts_77 h13 (by omega) (by omega) (by decide) ?_
              rw [(hB c (by omega)).1]
              have hbc := (hB c (by omega)).2
              have hmb := mis_b hO hak hbc
              refine wp_istore (lv' := [(12, zI ((lb c : Nat) : Int)), (10, zJ (23298085122481000 + (12 * ((dgP (1 + 1) : Nat) : Int)))), (0, zR 11), (1, zR 2), (2, zI (st 0)), (3, zI (st 1)), (4, zI (st 2)), (5, zJ ((dgP (1 + 1) : Nat) : Int)), (7, zI ((1 + 1 : Nat) : Int)), (8, zI ((la 1 : Nat) : Int)), (9, zI ((c + 1 : Nat) : Int))]) G dX3_fillCosts_78 (by decide) rfl ?_
              refine wp_aload_n G 3 dX3_fillCosts_80 rfl ?_
              refine wp_iload G 9 dX3_fillCosts_81 rfl ?_
              refine wp_iload G 0 dX3_fillCosts_83 rfl ?_
              refine wp_iload_n G 4 dX3_fillCosts_85 rfl ?_
              refine wp_iload_n G 5 dX3_fillCosts_86 rfl ?_
              refine wp_iload G 6 dX3_fillCosts_87 rfl ?_
              refine wp_cSE (as := [zR 2, zI ((la 1 : Nat) : Int), zI ((lb c : Nat) : Int), zI (st 0), zI (st 1), zI (st 2)]) (rest := []) (hp2 := (nx, h, [(15, oL 2 25 (C 0)), (16, oL 2 25 (C 1)), (17, oL 2 25 Kr), (18, oL 2 25 (C 3)), (19, oL 2 25 (C 4)), (20, oL 2 25 (C 5)), (21, oL 2 25 (C 6)), (22, oL 2 25 (C 7)), (23, oL 2 25 (C 8)), (24, oL 2 25 (C 9)), (25, oL 2 25 (C 10)), (26, oL 2 25 (C 11)), (27, oL 2 25 (C 12))])) G mX3_maySame lX3_94 sX3_maySame dX3_fillCosts_89 rfl rfl (Nat.le_of_ble_eq_true rfl) (rmx_ok hR (by decide) (by decide) (by decide) (by decide)) (t_X3_maySame (nx := nx) (i := (la 1)) (j := (lb c)) (dd := (st 0)) (ff := (st 1)) (tt := (st 2)) hQ hO (by omega) (by omega) (by omega) (by omega) (by omega)) rfl ?_
              refine wp_istore (lv' := [(13, zI (bt ((if 0 ≤ (q 1 (la 1) - q 1 (lb c)) then (q 1 (la 1) - q 1 (lb c)) else -(q 1 (la 1) - q 1 (lb c))) ≤ (st 0) ∧ (farZ (q 2 (la 1)) (q 3 (la 1)) (q 2 (lb c)) (q 3 (lb c))) ≤ (st 1) ∧ (if 0 ≤ (q 4 (la 1) - q 4 (lb c)) then (q 4 (la 1) - q 4 (lb c)) else -(q 4 (la 1) - q 4 (lb c))) ≤ (st 2)))), (12, zI ((lb c : Nat) : Int)), (10, zJ (23298085122481000 + (12 * ((dgP (1 + 1) : Nat) : Int)))), (0, zR 11), (1, zR 2), (2, zI (st 0)), (3, zI (st 1)), (4, zI (st 2)), (5, zJ ((dgP (1 + 1) : Nat) : Int)), (7, zI ((1 + 1 : Nat) : Int)), (8, zI ((la 1 : Nat) : Int)), (9, zI ((c + 1 : Nat) : Int))]) G dX3_fillCosts_92 (by decide) rfl ?_
              refine wp_iload G 0 dX3_fillCosts_94 rfl ?_
              refine wp_ifeq_bt G dX3_fillCosts_96 (fun kq7 => ?_) (fun kq7 => ?_)
              · skip
                refine wp_ldc2 (z := 1000000000000000000) G kX3_102 dX3_fillCosts_124 ?_
                refine wp_lstore (lv' := [(10, zJ 1000000000000000000), (13, zI (bt ((if 0 ≤ (q 1 (la 1) - q 1 (lb c)) then (q 1 (la 1) - q 1 (lb c)) else -(q 1 (la 1) - q 1 (lb c))) ≤ (st 0) ∧ (farZ (q 2 (la 1)) (q 3 (la 1)) (q 2 (lb c)) (q 3 (lb c))) ≤ (st 1) ∧ (if 0 ≤ (q 4 (la 1) - q 4 (lb c)) then (q 4 (la 1) - q 4 (lb c)) else -(q 4 (la 1) - q 4 (lb c))) ≤ (st 2)))), (12, zI ((lb c : Nat) : Int)), (0, zR 11), (1, zR 2), (2, zI (st 0)), (3, zI (st 1)), (4, zI (st 2)), (5, zJ ((dgP (1 + 1) : Nat) : Int)), (7, zI ((1 + 1 : Nat) : Int)), (8, zI ((la 1 : Nat) : Int)), (9, zI ((c + 1 : Nat) : Int))]) G dX3_fillCosts_127 (by decide) rfl ?_
                refine wp_aload_n G 3 dX3_fillCosts_129 rfl ?_
                refine wp_get G 7 cOk3 fX3_36 dX3_fillCosts_130 h11 rfl ?_
                refine wp_iload G 9 dX3_fillCosts_133 rfl ?_
                refine wp_aald (j := 1 + 1) G (by decide) (by decide) dX3_fillCosts_135 h14 rfl (by omega) (by decide) ?_
                show Wp K 14 (Mx K h (fun rr nx' l' => ∃ (C : Nat → Nat → Int), (∀ i, 1 ≤ i → i ≤ rw_ → ∀ j, 1 ≤ j → j ≤ cl → C i j = kst (XJ q st la lb) pt (i) j) ∧ rr = none ∧ nx' = nx ∧ l' = [(15, oL 2 25 (C 0)), (16, oL 2 25 (C 1)), (17, oL 2 25 (C 2)), (18, oL 2 25 (C 3)), (19, oL 2 25 (C 4)), (20, oL 2 25 (C 5)), (21, oL 2 25 (C 6)), (22, oL 2 25 (C 7)), (23, oL 2 25 (C 8)), (24, oL 2 25 (C 9)), (25, oL 2 25 (C 10)), (26, oL 2 25 (C 11)), (27, oL 2 25 (C 12))]) (0, 0)) (0, 0) 136 [(10, zJ 1000000000000000000), (13, zI (bt ((if 0 ≤ (q 1 (la 1) - q 1 (lb c)) then (q 1 (la 1) - q 1 (lb c)) else -(q 1 (la 1) - q 1 (lb c))) ≤ (st 0) ∧ (farZ (q 2 (la 1)) (q 3 (la 1)) (q 2 (lb c)) (q 3 (lb c))) ≤ (st 1) ∧ (if 0 ≤ (q 4 (la 1) - q 4 (lb c)) then (q 4 (la 1) - q 4 (lb c)) else -(q 4 (la 1) - q 4 (lb c))) ≤ (st 2)))), (12, zI ((lb c : Nat) : Int)), (0, zR 11), (1, zR 2), (2, zI (st 0)), (3, zI (st 1)), (4, zI (st 2)), (5, zJ ((dgP (1 + 1) : Nat) : Int)), (7, zI ((1 + 1 : Nat) : Int)), (8, zI ((la 1 : Nat) : Int)), (9, zI ((c + 1 : Nat) : Int))] [zR 17] (nx, h, [(15, oL 2 25 (C 0)), (16, oL 2 25 (C 1)), (17, oL 2 25 Kr), (18, oL 2 25 (C 3)), (19, oL 2 25 (C 4)), (20, oL 2 25 (C 5)), (21, oL 2 25 (C 6)), (22, oL 2 25 (C 7)), (23, oL 2 25 (C 8)), (24, oL 2 25 (C 9)), (25, oL 2 25 (C 10)), (26, oL 2 25 (C 11)), (27, oL 2 25 (C 12))])
                refine wp_iload G 11 dX3_fillCosts_136 rfl ?_
                refine wp_lload G 0 dX3_fillCosts_138 rfl ?_
                refine wp_lastE (j := c + 1) (hp2 := (nx, h, [(15, oL 2 25 (C 0)), (16, oL 2 25 (C 1)), (17, oL 2 25 (fup Kr (c + 1) 1000000000000000000)), (18, oL 2 25 (C 3)), (19, oL 2 25 (C 4)), (20, oL 2 25 (C 5)), (21, oL 2 25 (C 6)), (22, oL 2 25 (C 7)), (23, oL 2 25 (C 8)), (24, oL 2 25 (C 9)), (25, oL 2 25 (C 10)), (26, oL 2 25 (C 11)), (27, oL 2 25 (C 12))])) G dX3_fillCosts_140 rfl rfl (by omega) (by decide) rfl ?_
                refine wp_iinc (lv' := [(9, zI (((c + 1 : Nat) : Int) + 1)), (10, zJ 1000000000000000000), (13, zI (bt ((if 0 ≤ (q 1 (la 1) - q 1 (lb c)) then (q 1 (la 1) - q 1 (lb c)) else -(q 1 (la 1) - q 1 (lb c))) ≤ (st 0) ∧ (farZ (q 2 (la 1)) (q 3 (la 1)) (q 2 (lb c)) (q 3 (lb c))) ≤ (st 1) ∧ (if 0 ≤ (q 4 (la 1) - q 4 (lb c)) then (q 4 (la 1) - q 4 (lb c)) else -(q 4 (la 1) - q 4 (lb c))) ≤ (st 2)))), (12, zI ((lb c : Nat) : Int)), (0, zR 11), (1, zR 2), (2, zI (st 0)), (3, zI (st 1)), (4, zI (st 2)), (5, zJ ((dgP (1 + 1) : Nat) : Int)), (7, zI ((1 + 1 : Nat) : Int)), (8, zI ((la 1 : Nat) : Int))]) G 11 dX3_fillCosts_141 rfl (by decide) rfl ?_
                refine wp_goto G dX3_fillCosts_144 ?_
                refine wp_lv [4, 5, 6, 7, 8, 9, 10, 11, 0] rfl ?_
                exact ih39 (c + 1) (fup Kr (c + 1) 1000000000000000000) (((c + 1 : Nat) : Int) + 1) (by omega) (by omega) (by omega) (by exact f_put hK (by first | exact kst_a (by omega) | exact kst_s (by omega) (by assumption) | exact kst_n (by omega) (by assumption)))
              · skip
                refine wp_aload_n G 4 dX3_fillCosts_99 rfl ?_
                refine wp_iload G 10 dX3_fillCosts_100 rfl ?_
                refine wp_iload G 1 dX3_fillCosts_102 rfl ?_
                refine wp_cSE (as := [zR 2, zI ((la 1 : Nat) : Int), zI ((lb c : Nat) : Int)]) (rest := []) (hp2 := (nx, h, [(15, oL 2 25 (C 0)), (16, oL 2 25 (C 1)), (17, oL 2 25 Kr), (18, oL 2 25 (C 3)), (19, oL 2 25 (C 4)), (20, oL 2 25 (C 5)), (21, oL 2 25 (C 6)), (22, oL 2 25 (C 7)), (23, oL 2 25 (C 8)), (24, oL 2 25 (C 9)), (25, oL 2 25 (C 10)), (26, oL 2 25 (C 11)), (27, oL 2 25 (C 12))])) G mX3_missOf lX3_98 sX3_missOf dX3_fillCosts_104 rfl rfl (Nat.le_of_ble_eq_true rfl) (rmx_ok hR (by decide) (by decide) (by decide) (by decide)) (t_X3_missOf (nx := nx) (i := (la 1)) (j := (lb c)) hQ hO (by omega) (by omega)) rfl ?_
                refine wp_i2l G (by omega) dX3_fillCosts_107 ?_
                refine wp_ldc2 (z := 23298085122481) G kX3_86 dX3_fillCosts_108 ?_
                refine wp_lmul G dX3_fillCosts_111 ?_
                refine wp_iload G 11 dX3_fillCosts_112 rfl ?_
                refine wp_iconst G dX3_fillCosts_114 ?_
                refine wp_isub G dX3_fillCosts_115 ?_
                refine wp_i2l G (by omega) dX3_fillCosts_116 ?_
                refine wp_lload G 8 dX3_fillCosts_117 rfl ?_
                refine wp_lmul G dX3_fillCosts_119 ?_
                refine wp_ladd G dX3_fillCosts_120 ?_
                refine wp_goto G dX3_fillCosts_121 ?_
                refine wp_lstore (lv' := [(10, zJ ((((if 0 ≤ (q 1 (la 1) - q 1 (lb c)) then (q 1 (la 1) - q 1 (lb c)) else -(q 1 (la 1) - q 1 (lb c))) + (farZ (q 2 (la 1)) (q 3 (la 1)) (q 2 (lb c)) (q 3 (lb c))) + (if 0 ≤ (q 4 (la 1) - q 4 (lb c)) then (q 4 (la 1) - q 4 (lb c)) else -(q 4 (la 1) - q 4 (lb c)))) * 23298085122481) + ((((c + 1 : Nat) : Int) - 1) * ((dgP (1 + 1) : Nat) : Int)))), (13, zI (bt ((if 0 ≤ (q 1 (la 1) - q 1 (lb c)) then (q 1 (la 1) - q 1 (lb c)) else -(q 1 (la 1) - q 1 (lb c))) ≤ (st 0) ∧ (farZ (q 2 (la 1)) (q 3 (la 1)) (q 2 (lb c)) (q 3 (lb c))) ≤ (st 1) ∧ (if 0 ≤ (q 4 (la 1) - q 4 (lb c)) then (q 4 (la 1) - q 4 (lb c)) else -(q 4 (la 1) - q 4 (lb c))) ≤ (st 2)))), (12, zI ((lb c : Nat) : Int)), (0, zR 11), (1, zR 2), (2, zI (st 0)), (3, zI (st 1)), (4, zI (st 2)), (5, zJ ((dgP (1 + 1) : Nat) : Int)), (7, zI ((1 + 1 : Nat) : Int)), (8, zI ((la 1 : Nat) : Int)), (9, zI ((c + 1 : Nat) : Int))]) G dX3_fillCosts_127 (by decide) rfl ?_
                refine wp_aload_n G 3 dX3_fillCosts_129 rfl ?_
                refine wp_get G 7 cOk3 fX3_36 dX3_fillCosts_130 h11 rfl ?_
                refine wp_iload G 9 dX3_fillCosts_133 rfl ?_
                refine wp_aald (j := 1 + 1) G (by decide) (by decide) dX3_fillCosts_135 h14 rfl (by omega) (by decide) ?_
                show Wp K 14 (Mx K h (fun rr nx' l' => ∃ (C : Nat → Nat → Int), (∀ i, 1 ≤ i → i ≤ rw_ → ∀ j, 1 ≤ j → j ≤ cl → C i j = kst (XJ q st la lb) pt (i) j) ∧ rr = none ∧ nx' = nx ∧ l' = [(15, oL 2 25 (C 0)), (16, oL 2 25 (C 1)), (17, oL 2 25 (C 2)), (18, oL 2 25 (C 3)), (19, oL 2 25 (C 4)), (20, oL 2 25 (C 5)), (21, oL 2 25 (C 6)), (22, oL 2 25 (C 7)), (23, oL 2 25 (C 8)), (24, oL 2 25 (C 9)), (25, oL 2 25 (C 10)), (26, oL 2 25 (C 11)), (27, oL 2 25 (C 12))]) (0, 0)) (0, 0) 136 [(10, zJ ((((if 0 ≤ (q 1 (la 1) - q 1 (lb c)) then (q 1 (la 1) - q 1 (lb c)) else -(q 1 (la 1) - q 1 (lb c))) + (farZ (q 2 (la 1)) (q 3 (la 1)) (q 2 (lb c)) (q 3 (lb c))) + (if 0 ≤ (q 4 (la 1) - q 4 (lb c)) then (q 4 (la 1) - q 4 (lb c)) else -(q 4 (la 1) - q 4 (lb c)))) * 23298085122481) + ((((c + 1 : Nat) : Int) - 1) * ((dgP (1 + 1) : Nat) : Int)))), (13, zI (bt ((if 0 ≤ (q 1 (la 1) - q 1 (lb c)) then (q 1 (la 1) - q 1 (lb c)) else -(q 1 (la 1) - q 1 (lb c))) ≤ (st 0) ∧ (farZ (q 2 (la 1)) (q 3 (la 1)) (q 2 (lb c)) (q 3 (lb c))) ≤ (st 1) ∧ (if 0 ≤ (q 4 (la 1) - q 4 (lb c)) then (q 4 (la 1) - q 4 (lb c)) else -(q 4 (la 1) - q 4 (lb c))) ≤ (st 2)))), (12, zI ((lb c : Nat) : Int)), (0, zR 11), (1, zR 2), (2, zI (st 0)), (3, zI (st 1)), (4, zI (st 2)), (5, zJ ((dgP (1 + 1) : Nat) : Int)), (7, zI ((1 + 1 : Nat) : Int)), (8, zI ((la 1 : Nat) : Int)), (9, zI ((c + 1 : Nat) : Int))] [zR 17] (nx, h, [(15, oL 2 25 (C 0)), (16, oL 2 25 (C 1)), (17, oL 2 25 Kr), (18, oL 2 25 (C 3)), (19, oL 2 25 (C 4)), (20, oL 2 25 (C 5)), (21, oL 2 25 (C 6)), (22, oL 2 25 (C 7)), (23, oL 2 25 (C 8)), (24, oL 2 25 (C 9)), (25, oL 2 25 (C 10)), (26, oL 2 25 (C 11)), (27, oL 2 25 (C 12))])
                refine wp_iload G 11 dX3_fillCosts_136 rfl ?_
                refine wp_lload G 0 dX3_fillCosts_138 rfl ?_
                refine wp_lastE (j := c + 1) (hp2 := (nx, h, [(15, oL 2 25 (C 0)), (16, oL 2 25 (C 1)), (17, oL 2 25 (fup Kr (c + 1) ((((if 0 ≤ (q 1 (la 1) - q 1 (lb c)) then (q 1 (la 1) - q 1 (lb c)) else -(q 1 (la 1) - q 1 (lb c))) + (farZ (q 2 (la 1)) (q 3 (la 1)) (q 2 (lb c)) (q 3 (lb c))) + (if 0 ≤ (q 4 (la 1) - q 4 (lb c)) then (q 4 (la 1) - q 4 (lb c)) else -(q 4 (la 1) - q 4 (lb c)))) * 23298085122481) + ((((c + 1 : Nat) : Int) - 1) * ((dgP (1 + 1) : Nat) : Int))))), (18, oL 2 25 (C 3)), (19, oL 2 25 (C 4)), (20, oL 2 25 (C 5)), (21, oL 2 25 (C 6)), (22, oL 2 25 (C 7)), (23, oL 2 25 (C 8)), (24, oL 2 25 (C 9)), (25, oL 2 25 (C 10)), (26, oL 2 25 (C 11)), (27, oL 2 25 (C 12))])) G dX3_fillCosts_140 rfl rfl (by omega) (by decide) rfl ?_
                refine wp_iinc (lv' := [(9, zI (((c + 1 : Nat) : Int) + 1)), (10, zJ ((((if 0 ≤ (q 1 (la 1) - q 1 (lb c)) then (q 1 (la 1) - q 1 (lb c)) else -(q 1 (la 1) - q 1 (lb c))) + (farZ (q 2 (la 1)) (q 3 (la 1)) (q 2 (lb c)) (q 3 (lb c))) + (if 0 ≤ (q 4 (la 1) - q 4 (lb c)) then (q 4 (la 1) - q 4 (lb c)) else -(q 4 (la 1) - q 4 (lb c)))) * 23298085122481) + ((((c + 1 : Nat) : Int) - 1) * ((dgP (1 + 1) : Nat) : Int)))), (13, zI (bt ((if 0 ≤ (q 1 (la 1) - q 1 (lb c)) then (q 1 (la 1) - q 1 (lb c)) else -(q 1 (la 1) - q 1 (lb c))) ≤ (st 0) ∧ (farZ (q 2 (la 1)) (q 3 (la 1)) (q 2 (lb c)) (q 3 (lb c))) ≤ (st 1) ∧ (if 0 ≤ (q 4 (la 1) - q 4 (lb c)) then (q 4 (la 1) - q 4 (lb c)) else -(q 4 (la 1) - q 4 (lb c))) ≤ (st 2)))), (12, zI ((lb c : Nat) : Int)), (0, zR 11), (1, zR 2), (2, zI (st 0)), (3, zI (st 1)), (4, zI (st 2)), (5, zJ ((dgP (1 + 1) : Nat) : Int)), (7, zI ((1 + 1 : Nat) : Int)), (8, zI ((la 1 : Nat) : Int))]) G 11 dX3_fillCosts_141 rfl (by decide) rfl ?_
                refine wp_goto G dX3_fillCosts_144 ?_
                refine wp_lv [4, 5, 6, 7, 8, 9, 10, 11, 0] rfl ?_
                exact ih39 (c + 1) (fup Kr (c + 1) ((((if 0 ≤ (q 1 (la 1) - q 1 (lb c)) then (q 1 (la 1) - q 1 (lb c)) else -(q 1 (la 1) - q 1 (lb c))) + (farZ (q 2 (la 1)) (q 3 (la 1)) (q 2 (lb c)) (q 3 (lb c))) + (if 0 ≤ (q 4 (la 1) - q 4 (lb c)) then (q 4 (la 1) - q 4 (lb c)) else -(q 4 (la 1) - q 4 (lb c)))) * 23298085122481) + ((((c + 1 : Nat) : Int) - 1) * ((dgP (1 + 1) : Nat) : Int)))) (((c + 1 : Nat) : Int) + 1) (by omega) (by omega) (by omega) (by exact f_put hK (by first | exact kst_a (by omega) | exact kst_s (by omega) (by assumption) | exact kst_n (by omega) (by assumption)))
      · skip
        refine wp_lload G 5 dX3_fillCosts_17 rfl ?_
        refine wp_ldc2 (z := 13) G kX3_88 dX3_fillCosts_19 ?_
        refine wp_ldiv G (by omega) (by omega) (by omega) (by omega) dX3_fillCosts_22 ?_
        rw [show ((((dgP 2 : Nat) : Int) / 13) : Int) = ((dgP (2 + 1) : Nat) : Int) from dg_s (by omega)]
        refine wp_lstore (lv' := [(5, zJ ((dgP (2 + 1) : Nat) : Int)), (0, zR 11), (1, zR 2), (2, zI (st 0)), (3, zI (st 1)), (4, zI (st 2)), (7, zI ((2 + 1 : Nat) : Int))]) G dX3_fillCosts_23 (by decide) rfl ?_
        refine wp_aload_n G 1 dX3_fillCosts_25 rfl ?_
        refine wp_get G 5 cOk3 fX3_27 dX3_fillCosts_26 h11 rfl ?_
        refine wp_iload G 6 dX3_fillCosts_29 rfl ?_
        refine wp_iconst G dX3_fillCosts_31 ?_
        refine wp_isub G dX3_fillCosts_32 ?_
        refine wp_iald (j := 2) G dX3_fillCosts_33 h12 (by omega) (by omega) (by decide) ?_
        rw [(hA 2 (by omega)).1]
        have hak := (hA 2 (by omega)).2
        refine wp_istore (lv' := [(8, zI ((la 2 : Nat) : Int)), (5, zJ ((dgP (2 + 1) : Nat) : Int)), (0, zR 11), (1, zR 2), (2, zI (st 0)), (3, zI (st 1)), (4, zI (st 2)), (7, zI ((2 + 1 : Nat) : Int))]) G dX3_fillCosts_34 (by decide) rfl ?_
        refine wp_iconst G dX3_fillCosts_36 ?_
        refine wp_istore (lv' := [(9, zI 1), (8, zI ((la 2 : Nat) : Int)), (5, zJ ((dgP (2 + 1) : Nat) : Int)), (0, zR 11), (1, zR 2), (2, zI (st 0)), (3, zI (st 1)), (4, zI (st 2)), (7, zI ((2 + 1 : Nat) : Int))]) G dX3_fillCosts_37 (by decide) rfl ?_
        refine wp_lv [3, 4, 5, 6, 7, 2, 8, 1, 0] rfl ?_
        suffices lp39 : ∀ (fu : Nat) (c : Nat) (Kr : Nat → Int) (v9 : Int), cl - c < fu → (v9 = ((c + 1 : Nat) : Int)) → (c ≤ cl) → (∀ j, 1 ≤ j → j ≤ c → Kr j = kst (XJ q st la lb) pt (2 + 1) j) → Wp K 14 (Mx K h (fun rr nx' l' => ∃ (C : Nat → Nat → Int), (∀ i, 1 ≤ i → i ≤ rw_ → ∀ j, 1 ≤ j → j ≤ cl → C i j = kst (XJ q st la lb) pt (i) j) ∧ rr = none ∧ nx' = nx ∧ l' = [(15, oL 2 25 (C 0)), (16, oL 2 25 (C 1)), (17, oL 2 25 (C 2)), (18, oL 2 25 (C 3)), (19, oL 2 25 (C 4)), (20, oL 2 25 (C 5)), (21, oL 2 25 (C 6)), (22, oL 2 25 (C 7)), (23, oL 2 25 (C 8)), (24, oL 2 25 (C 9)), (25, oL 2 25 (C 10)), (26, oL 2 25 (C 11)), (27, oL 2 25 (C 12))]) (0, 0)) (0, 0) 39 [(0, zR 11), (1, zR 2), (2, zI (st 0)), (3, zI (st 1)), (4, zI (st 2)), (5, zJ ((dgP (2 + 1) : Nat) : Int)), (7, zI ((2 + 1 : Nat) : Int)), (8, zI ((la 2 : Nat) : Int)), (9, zI v9)] [] (nx, h, [(15, oL 2 25 (C 0)), (16, oL 2 25 (C 1)), (17, oL 2 25 (C 2)), (18, oL 2 25 Kr), (19, oL 2 25 (C 4)), (20, oL 2 25 (C 5)), (21, oL 2 25 (C 6)), (22, oL 2 25 (C 7)), (23, oL 2 25 (C 8)), (24, oL 2 25 (C 9)), (25, oL 2 25 (C 10)), (26, oL 2 25 (C 11)), (27, oL 2 25 (C 12))]) from lp39 _ 0 (C 3) 1 (Nat.lt_succ_self _) (by omega) (by omega) (by intro j h1 h2; omega)
        intro fu
        induction fu with
        | zero => intro c Kr v9 hm; exact absurd hm (Nat.not_lt_zero _)
        | succ fu ih39 =>
          intro c Kr v9 hm39 e9 hi0 hK
          subst e9
          refine wp_iload G 8 dX3_fillCosts_39 rfl ?_
          refine wp_aload_n G 0 dX3_fillCosts_41 rfl ?_
          refine wp_get G 4 cOk3 fX3_24 dX3_fillCosts_42 h11 rfl ?_
          refine wp_icmp_gt G dX3_fillCosts_45 (by omega) (by omega) (fun kq8 => ?_) (fun kq8 => ?_)
          · skip
            refine wp_iinc (lv' := [(7, zI (((2 + 1 : Nat) : Int) + 1)), (0, zR 11), (1, zR 2), (2, zI (st 0)), (3, zI (st 1)), (4, zI (st 2)), (5, zJ ((dgP (2 + 1) : Nat) : Int)), (8, zI ((la 2 : Nat) : Int)), (9, zI ((c + 1 : Nat) : Int))]) G 6 dX3_fillCosts_147 rfl (by decide) rfl ?_
            refine wp_goto G dX3_fillCosts_150 ?_
            refine wp_lv [1, 2, 3, 4, 5, 6, 0] rfl ?_
            exact ih8 (2 + 1) (fup C (2 + 1) Kr) ((dgP (2 + 1) : Nat) : Int) (((2 + 1 : Nat) : Int) + 1) (by omega) (by rfl) (by omega) (by omega) (by exact r_put hK0 (fun j h1 h2 => hK j h1 (by omega)))
          · skip
            refine wp_ldc2 (z := 23298085122481000) G kX3_90 dX3_fillCosts_48 ?_
            refine wp_ldc2 (z := 12) G kX3_92 dX3_fillCosts_51 ?_
            refine wp_lload G 5 dX3_fillCosts_54 rfl ?_
            refine wp_lmul G dX3_fillCosts_56 ?_
            refine wp_ladd G dX3_fillCosts_57 ?_
            refine wp_lstore (lv' := [(10, zJ (23298085122481000 + (12 * ((dgP (2 + 1) : Nat) : Int)))), (0, zR 11), (1, zR 2), (2, zI (st 0)), (3, zI (st 1)), (4, zI (st 2)), (5, zJ ((dgP (2 + 1) : Nat) : Int)), (7, zI ((2 + 1 : Nat) : Int)), (8, zI ((la 2 : Nat) : Int)), (9, zI ((c + 1 : Nat) : Int))]) G dX3_fillCosts_58 (by decide) rfl ?_
            refine wp_iload G 9 dX3_fillCosts_60 rfl ?_
            refine wp_aload_n G 1 dX3_fillCosts_62 rfl ?_
            refine wp_get G 3 cOk3 fX3_21 dX3_fillCosts_63 h11 rfl ?_
            refine wp_icmp_gt G dX3_fillCosts_66 (by omega) (by omega) (fun kq9 => ?_) (fun kq9 => ?_)
            · skip
              refine wp_aload_n G 1 dX3_fillCosts_129 rfl ?_
              refine wp_get G 7 cOk3 fX3_36 dX3_fillCosts_130 h11 rfl ?_
              refine wp_iload G 7 dX3_fillCosts_133 rfl ?_
              refine wp_aald (j := 2 + 1) G (by decide) (by decide) dX3_fillCosts_135 h14 rfl (by omega) (by decide) ?_
              show Wp K 14 (Mx K h (fun rr nx' l' => ∃ (C : Nat → Nat → Int), (∀ i, 1 ≤ i → i ≤ rw_ → ∀ j, 1 ≤ j → j ≤ cl → C i j = kst (XJ q st la lb) pt (i) j) ∧ rr = none ∧ nx' = nx ∧ l' = [(15, oL 2 25 (C 0)), (16, oL 2 25 (C 1)), (17, oL 2 25 (C 2)), (18, oL 2 25 (C 3)), (19, oL 2 25 (C 4)), (20, oL 2 25 (C 5)), (21, oL 2 25 (C 6)), (22, oL 2 25 (C 7)), (23, oL 2 25 (C 8)), (24, oL 2 25 (C 9)), (25, oL 2 25 (C 10)), (26, oL 2 25 (C 11)), (27, oL 2 25 (C 12))]) (0, 0)) (0, 0) 136 [(10, zJ (23298085122481000 + (12 * ((dgP (2 + 1) : Nat) : Int)))), (0, zR 11), (1, zR 2), (2, zI (st 0)), (3, zI (st 1)), (4, zI (st 2)), (5, zJ ((dgP (2 + 1) : Nat) : Int)), (7, zI ((2 + 1 : Nat) : Int)), (8, zI ((la 2 : Nat) : Int)), (9, zI ((c + 1 : Nat) : Int))] [zR 18] (nx, h, [(15, oL 2 25 (C 0)), (16, oL 2 25 (C 1)), (17, oL 2 25 (C 2)), (18, oL 2 25 Kr), (19, oL 2 25 (C 4)), (20, oL 2 25 (C 5)), (21, oL 2 25 (C 6)), (22, oL 2 25 (C 7)), (23, oL 2 25 (C 8)), (24, oL 2 25 (C 9)), (25, oL 2 25 (C 10)), (26, oL 2 25 (C 11)), (27, oL 2 25 (C 12))])
              refine wp_iload G 9 dX3_fillCosts_136 rfl ?_
              refine wp_lload G 0 dX3_fillCosts_138 rfl ?_
              refine wp_lastE (j := c + 1) (hp2 := (nx, h, [(15, oL 2 25 (C 0)), (16, oL 2 25 (C 1)), (17, oL 2 25 (C 2)), (18, oL 2 25 (fup Kr (c + 1) (23298085122481000 + (12 * ((dgP (2 + 1) : Nat) : Int))))), (19, oL 2 25 (C 4)), (20, oL 2 25 (C 5)), (21, oL 2 25 (C 6)), (22, oL 2 25 (C 7)), (23, oL 2 25 (C 8)), (24, oL 2 25 (C 9)), (25, oL 2 25 (C 10)), (26, oL 2 25 (C 11)), (27, oL 2 25 (C 12))])) G dX3_fillCosts_140 rfl rfl (by omega) (by decide) rfl ?_
              refine wp_iinc (lv' := [(9, zI (((c + 1 : Nat) : Int) + 1)), (10, zJ (23298085122481000 + (12 * ((dgP (2 + 1) : Nat) : Int)))), (0, zR 11), (1, zR 2), (2, zI (st 0)), (3, zI (st 1)), (4, zI (st 2)), (5, zJ ((dgP (2 + 1) : Nat) : Int)), (7, zI ((2 + 1 : Nat) : Int)), (8, zI ((la 2 : Nat) : Int))]) G 9 dX3_fillCosts_141 rfl (by decide) rfl ?_
              refine wp_goto G dX3_fillCosts_144 ?_
              refine wp_lv [2, 3, 4, 5, 6, 7, 8, 9, 0] rfl ?_
              exact ih39 (c + 1) (fup Kr (c + 1) (23298085122481000 + (12 * ((dgP (2 + 1) : Nat) : Int)))) (((c + 1 : Nat) : Int) + 1) (by omega) (by omega) (by omega) (by exact f_put hK (by first | exact kst_a (by omega) | exact kst_s (by omega) (by assumption) | exact kst_n (by omega) (by assumption)))
            · skip
              refine wp_aload_n G 1 dX3_fillCosts_69 rfl ?_
              refine wp_get G 6 cOk3 fX3_31 dX3_fillCosts_70 h11 rfl ?_
              refine wp_iload G 9 dX3_fillCosts_73 rfl ?_
              refine wp_iconst G dX3_fillCosts_75 ?_
              refine wp_isub G dX3_fillCosts_76 ?_
              refine wp_iald (j := c) G dX3_fillCosts_77 h13 (by omega) (by omega) (by decide) ?_
              rw [(hB c (by omega)).1]
              have hbc := (hB c (by omega)).2
              have hmb := mis_b hO hak hbc
              refine wp_istore (lv' := [(12, zI ((lb c : Nat) : Int)), (10, zJ (23298085122481000 + (12 * ((dgP (2 + 1) : Nat) : Int)))), (0, zR 11), (1, zR 2), (2, zI (st 0)), (3, zI (st 1)), (4, zI (st 2)), (5, zJ ((dgP (2 + 1) : Nat) : Int)), (7, zI ((2 + 1 : Nat) : Int)), (8, zI ((la 2 : Nat) : Int)), (9, zI ((c + 1 : Nat) : Int))]) G dX3_fillCosts_78 (by decide) rfl ?_
              refine wp_aload_n G 3 dX3_fillCosts_80 rfl ?_
              refine wp_iload G 9 dX3_fillCosts_81 rfl ?_
              refine wp_iload G 0 dX3_fillCosts_83 rfl ?_
              refine wp_iload_n G 4 dX3_fillCosts_85 rfl ?_
              refine wp_iload_n G 5 dX3_fillCosts_86 rfl ?_
              refine wp_iload G 6 dX3_fillCosts_87 rfl ?_
              refine wp_cSE (as := [zR 2, zI ((la 2 : Nat) : Int), zI ((lb c : Nat) : Int), zI (st 0), zI (st 1), zI (st 2)]) (rest := []) (hp2 := (nx, h, [(15, oL 2 25 (C 0)), (16, oL 2 25 (C 1)), (17, oL 2 25 (C 2)), (18, oL 2 25 Kr), (19, oL 2 25 (C 4)), (20, oL 2 25 (C 5)), (21, oL 2 25 (C 6)), (22, oL 2 25 (C 7)), (23, oL 2 25 (C 8)), (24, oL 2 25 (C 9)), (25, oL 2 25 (C 10)), (26, oL 2 25 (C 11)), (27, oL 2 25 (C 12))])) G mX3_maySame lX3_94 sX3_maySame dX3_fillCosts_89 rfl rfl (Nat.le_of_ble_eq_true rfl) (rmx_ok hR (by decide) (by decide) (by decide) (by decide)) (t_X3_maySame (nx := nx) (i := (la 2)) (j := (lb c)) (dd := (st 0)) (ff := (st 1)) (tt := (st 2)) hQ hO (by omega) (by omega) (by omega) (by omega) (by omega)) rfl ?_
              refine wp_istore (lv' := [(13, zI (bt ((if 0 ≤ (q 1 (la 2) - q 1 (lb c)) then (q 1 (la 2) - q 1 (lb c)) else -(q 1 (la 2) - q 1 (lb c))) ≤ (st 0) ∧ (farZ (q 2 (la 2)) (q 3 (la 2)) (q 2 (lb c)) (q 3 (lb c))) ≤ (st 1) ∧ (if 0 ≤ (q 4 (la 2) - q 4 (lb c)) then (q 4 (la 2) - q 4 (lb c)) else -(q 4 (la 2) - q 4 (lb c))) ≤ (st 2)))), (12, zI ((lb c : Nat) : Int)), (10, zJ (23298085122481000 + (12 * ((dgP (2 + 1) : Nat) : Int)))), (0, zR 11), (1, zR 2), (2, zI (st 0)), (3, zI (st 1)), (4, zI (st 2)), (5, zJ ((dgP (2 + 1) : Nat) : Int)), (7, zI ((2 + 1 : Nat) : Int)), (8, zI ((la 2 : Nat) : Int)), (9, zI ((c + 1 : Nat) : Int))]) G dX3_fillCosts_92 (by decide) rfl ?_
              refine wp_iload G 0 dX3_fillCosts_94 rfl ?_
              refine wp_ifeq_bt G dX3_fillCosts_96 (fun kq10 => ?_) (fun kq10 => ?_)
              · skip
                refine wp_ldc2 (z := 1000000000000000000) G kX3_102 dX3_fillCosts_124 ?_
                refine wp_lstore (lv' := [(10, zJ 1000000000000000000), (13, zI (bt ((if 0 ≤ (q 1 (la 2) - q 1 (lb c)) then (q 1 (la 2) - q 1 (lb c)) else -(q 1 (la 2) - q 1 (lb c))) ≤ (st 0) ∧ (farZ (q 2 (la 2)) (q 3 (la 2)) (q 2 (lb c)) (q 3 (lb c))) ≤ (st 1) ∧ (if 0 ≤ (q 4 (la 2) - q 4 (lb c)) then (q 4 (la 2) - q 4 (lb c)) else -(q 4 (la 2) - q 4 (lb c))) ≤ (st 2)))), (12, zI ((lb c : Nat) : Int)), (0, zR 11), (1, zR 2), (2, zI (st 0)), (3, zI (st 1)), (4, zI (st 2)), (5, zJ ((dgP (2 + 1) : Nat) : Int)), (7, zI ((2 + 1 : Nat) : Int)), (8, zI ((la 2 : Nat) : Int)), (9, zI ((c + 1 : Nat) : Int))]) G dX3_fillCosts_127 (by decide) rfl ?_
                refine wp_aload_n G 3 dX3_fillCosts_129 rfl ?_
                refine wp_get G 7 cOk3 fX3_36 dX3_fillCosts_130 h11 rfl ?_
                refine wp_iload G 9 dX3_fillCosts_133 rfl ?_
                refine wp_aald (j := 2 + 1) G (by decide) (by decide) dX3_fillCosts_135 h14 rfl (by omega) (by decide) ?_
                show Wp K 14 (Mx K h (fun rr nx' l' => ∃ (C : Nat → Nat → Int), (∀ i, 1 ≤ i → i ≤ rw_ → ∀ j, 1 ≤ j → j ≤ cl → C i j = kst (XJ q st la lb) pt (i) j) ∧ rr = none ∧ nx' = nx ∧ l' = [(15, oL 2 25 (C 0)), (16, oL 2 25 (C 1)), (17, oL 2 25 (C 2)), (18, oL 2 25 (C 3)), (19, oL 2 25 (C 4)), (20, oL 2 25 (C 5)), (21, oL 2 25 (C 6)), (22, oL 2 25 (C 7)), (23, oL 2 25 (C 8)), (24, oL 2 25 (C 9)), (25, oL 2 25 (C 10)), (26, oL 2 25 (C 11)), (27, oL 2 25 (C 12))]) (0, 0)) (0, 0) 136 [(10, zJ 1000000000000000000), (13, zI (bt ((if 0 ≤ (q 1 (la 2) - q 1 (lb c)) then (q 1 (la 2) - q 1 (lb c)) else -(q 1 (la 2) - q 1 (lb c))) ≤ (st 0) ∧ (farZ (q 2 (la 2)) (q 3 (la 2)) (q 2 (lb c)) (q 3 (lb c))) ≤ (st 1) ∧ (if 0 ≤ (q 4 (la 2) - q 4 (lb c)) then (q 4 (la 2) - q 4 (lb c)) else -(q 4 (la 2) - q 4 (lb c))) ≤ (st 2)))), (12, zI ((lb c : Nat) : Int)), (0, zR 11), (1, zR 2), (2, zI (st 0)), (3, zI (st 1)), (4, zI (st 2)), (5, zJ ((dgP (2 + 1) : Nat) : Int)), (7, zI ((2 + 1 : Nat) : Int)), (8, zI ((la 2 : Nat) : Int)), (9, zI ((c + 1 : Nat) : Int))] [zR 18] (nx, h, [(15, oL 2 25 (C 0)), (16, oL 2 25 (C 1)), (17, oL 2 25 (C 2)), (18, oL 2 25 Kr), (19, oL 2 25 (C 4)), (20, oL 2 25 (C 5)), (21, oL 2 25 (C 6)), (22, oL 2 25 (C 7)), (23, oL 2 25 (C 8)), (24, oL 2 25 (C 9)), (25, oL 2 25 (C 10)), (26, oL 2 25 (C 11)), (27, oL 2 25 (C 12))])
                refine wp_iload G 11 dX3_fillCosts_136 rfl ?_
                refine wp_lload G 0 dX3_fillCosts_138 rfl ?_
                refine wp_lastE (j := c + 1) (hp2 := (nx, h, [(15, oL 2 25 (C 0)), (16, oL 2 25 (C 1)), (17, oL 2 25 (C 2)), (18, oL 2 25 (fup Kr (c + 1) 1000000000000000000)), (19, oL 2 25 (C 4)), (20, oL 2 25 (C 5)), (21, oL 2 25 (C 6)), (22, oL 2 25 (C 7)), (23, oL 2 25 (C 8)), (24, oL 2 25 (C 9)), (25, oL 2 25 (C 10)), (26, oL 2 25 (C 11)), (27, oL 2 25 (C 12))])) G dX3_fillCosts_140 rfl rfl (by omega) (by decide) rfl ?_
                refine wp_iinc (lv' := [(9, zI (((c + 1 : Nat) : Int) + 1)), (10, zJ 1000000000000000000), (13, zI (bt ((if 0 ≤ (q 1 (la 2) - q 1 (lb c)) then (q 1 (la 2) - q 1 (lb c)) else -(q 1 (la 2) - q 1 (lb c))) ≤ (st 0) ∧ (farZ (q 2 (la 2)) (q 3 (la 2)) (q 2 (lb c)) (q 3 (lb c))) ≤ (st 1) ∧ (if 0 ≤ (q 4 (la 2) - q 4 (lb c)) then (q 4 (la 2) - q 4 (lb c)) else -(q 4 (la 2) - q 4 (lb c))) ≤ (st 2)))), (12, zI ((lb c : Nat) : Int)), (0, zR 11), (1, zR 2), (2, zI (st 0)), (3, zI (st 1)), (4, zI (st 2)), (5, zJ ((dgP (2 + 1) : Nat) : Int)), (7, zI ((2 + 1 : Nat) : Int)), (8, zI ((la 2 : Nat) : Int))]) G 11 dX3_fillCosts_141 rfl (by decide) rfl ?_
                refine wp_goto G dX3_fillCosts_144 ?_
                refine wp_lv [4, 5, 6, 7, 8, 9, 10, 11, 0] rfl ?_
                exact ih39 (c + 1) (fup Kr (c + 1) 1000000000000000000) (((c + 1 : Nat) : Int) + 1) (by omega) (by omega) (by omega) (by exact f_put hK (by first | exact kst_a (by omega) | exact kst_s (by omega) (by assumption) | exact kst_n (by omega) (by assumption)))
              · skip
                refine wp_aload_n G 4 dX3_fillCosts_99 rfl ?_
                refine wp_iload G 10 dX3_fillCosts_100 rfl ?_
                refine wp_iload G 1 dX3_fillCosts_102 rfl ?_
                refine wp_cSE (as := [zR 2, zI ((la 2 : Nat) : Int), zI ((lb c : Nat) : Int)]) (rest := []) (hp2 := (nx, h, [(15, oL 2 25 (C 0)), (16, oL 2 25 (C 1)), (17, oL 2 25 (C 2)), (18, oL 2 25 Kr), (19, oL 2 25 (C 4)), (20, oL 2 25 (C 5)), (21, oL 2 25 (C 6)), (22, oL 2 25 (C 7)), (23, oL 2 25 (C 8)), (24, oL 2 25 (C 9)), (25, oL 2 25 (C 10)), (26, oL 2 25 (C 11)), (27, oL 2 25 (C 12))])) G mX3_missOf lX3_98 sX3_missOf dX3_fillCosts_104 rfl rfl (Nat.le_of_ble_eq_true rfl) (rmx_ok hR (by decide) (by decide) (by decide) (by decide)) (t_X3_missOf (nx := nx) (i := (la 2)) (j := (lb c)) hQ hO (by omega) (by omega)) rfl ?_
                refine wp_i2l G (by omega) dX3_fillCosts_107 ?_
                refine wp_ldc2 (z := 23298085122481) G kX3_86 dX3_fillCosts_108 ?_
                refine wp_lmul G dX3_fillCosts_111 ?_
                refine wp_iload G 11 dX3_fillCosts_112 rfl ?_
                refine wp_iconst G dX3_fillCosts_114 ?_
                refine wp_isub G dX3_fillCosts_115 ?_
                refine wp_i2l G (by omega) dX3_fillCosts_116 ?_
                refine wp_lload G 8 dX3_fillCosts_117 rfl ?_
                refine wp_lmul G dX3_fillCosts_119 ?_
                refine wp_ladd G dX3_fillCosts_120 ?_
                refine wp_goto G dX3_fillCosts_121 ?_
                refine wp_lstore (lv' := [(10, zJ ((((if 0 ≤ (q 1 (la 2) - q 1 (lb c)) then (q 1 (la 2) - q 1 (lb c)) else -(q 1 (la 2) - q 1 (lb c))) + (farZ (q 2 (la 2)) (q 3 (la 2)) (q 2 (lb c)) (q 3 (lb c))) + (if 0 ≤ (q 4 (la 2) - q 4 (lb c)) then (q 4 (la 2) - q 4 (lb c)) else -(q 4 (la 2) - q 4 (lb c)))) * 23298085122481) + ((((c + 1 : Nat) : Int) - 1) * ((dgP (2 + 1) : Nat) : Int)))), (13, zI (bt ((if 0 ≤ (q 1 (la 2) - q 1 (lb c)) then (q 1 (la 2) - q 1 (lb c)) else -(q 1 (la 2) - q 1 (lb c))) ≤ (st 0) ∧ (farZ (q 2 (la 2)) (q 3 (la 2)) (q 2 (lb c)) (q 3 (lb c))) ≤ (st 1) ∧ (if 0 ≤ (q 4 (la 2) - q 4 (lb c)) then (q 4 (la 2) - q 4 (lb c)) else -(q 4 (la 2) - q 4 (lb c))) ≤ (st 2)))), (12, zI ((lb c : Nat) : Int)), (0, zR 11), (1, zR 2), (2, zI (st 0)), (3, zI (st 1)), (4, zI (st 2)), (5, zJ ((dgP (2 + 1) : Nat) : Int)), (7, zI ((2 + 1 : Nat) : Int)), (8, zI ((la 2 : Nat) : Int)), (9, zI ((c + 1 : Nat) : Int))]) G dX3_fillCosts_127 (by decide) rfl ?_
                refine wp_aload_n G 3 dX3_fillCosts_129 rfl ?_
                refine wp_get G 7 cOk3 fX3_36 dX3_fillCosts_130 h11 rfl ?_
                refine wp_iload G 9 dX3_fillCosts_133 rfl ?_
                refine wp_aald (j := 2 + 1) G (by decide) (by decide) dX3_fillCosts_135 h14 rfl (by omega) (by decide) ?_
                show Wp K 14 (Mx K h (fun rr nx' l' => ∃ (C : Nat → Nat → Int), (∀ i, 1 ≤ i → i ≤ rw_ → ∀ j, 1 ≤ j → j ≤ cl → C i j = kst (XJ q st la lb) pt (i) j) ∧ rr = none ∧ nx' = nx ∧ l' = [(15, oL 2 25 (C 0)), (16, oL 2 25 (C 1)), (17, oL 2 25 (C 2)), (18, oL 2 25 (C 3)), (19, oL 2 25 (C 4)), (20, oL 2 25 (C 5)), (21, oL 2 25 (C 6)), (22, oL 2 25 (C 7)), (23, oL 2 25 (C 8)), (24, oL 2 25 (C 9)), (25, oL 2 25 (C 10)), (26, oL 2 25 (C 11)), (27, oL 2 25 (C 12))]) (0, 0)) (0, 0) 136 [(10, zJ ((((if 0 ≤ (q 1 (la 2) - q 1 (lb c)) then (q 1 (la 2) - q 1 (lb c)) else -(q 1 (la 2) - q 1 (lb c))) + (farZ (q 2 (la 2)) (q 3 (la 2)) (q 2 (lb c)) (q 3 (lb c))) + (if 0 ≤ (q 4 (la 2) - q 4 (lb c)) then (q 4 (la 2) - q 4 (lb c)) else -(q 4 (la 2) - q 4 (lb c)))) * 23298085122481) + ((((c + 1 : Nat) : Int) - 1) * ((dgP (2 + 1) : Nat) : Int)))), (13, zI (bt ((if 0 ≤ (q 1 (la 2) - q 1 (lb c)) then (q 1 (la 2) - q 1 (lb c)) else -(q 1 (la 2) - q 1 (lb c))) ≤ (st 0) ∧ (farZ (q 2 (la 2)) (q 3 (la 2)) (q 2 (lb c)) (q 3 (lb c))) ≤ (st 1) ∧ (if 0 ≤ (q 4 (la 2) - q 4 (lb c)) then (q 4 (la 2) - q 4 (lb c)) else -(q 4 (la 2) - q 4 (lb c))) ≤ (st 2)))), (12, zI ((lb c : Nat) : Int)), (0, zR 11), (1, zR 2), (2, zI (st 0)), (3, zI (st 1)), (4, zI (st 2)), (5, zJ ((dgP (2 + 1) : Nat) : Int)), (7, zI ((2 + 1 : Nat) : Int)), (8, zI ((la 2 : Nat) : Int)), (9, zI ((c + 1 : Nat) : Int))] [zR 18] (nx, h, [(15, oL 2 25 (C 0)), (16, oL 2 25 (C 1)), (17, oL 2 25 (C 2)), (18, oL 2 25 Kr), (19, oL 2 25 (C 4)), (20, oL 2 25 (C 5)), (21, oL 2 25 (C 6)), (22, oL 2 25 (C 7)), (23, oL 2 25 (C 8)), (24, oL 2 25 (C 9)), (25, oL 2 25 (C 10)), (26, oL 2 25 (C 11)), (27, oL 2 25 (C 12))])
                refine wp_iload G 11 dX3_fillCosts_136 rfl ?_
                refine wp_lload G 0 dX3_fillCosts_138 rfl ?_
                refine wp_lastE (j := c + 1) (hp2 := (nx, h, [(15, oL 2 25 (C 0)), (16, oL 2 25 (C 1)), (17, oL 2 25 (C 2)), (18, oL 2 25 (fup Kr (c + 1) ((((if 0 ≤ (q 1 (la 2) - q 1 (lb c)) then (q 1 (la 2) - q 1 (lb c)) else -(q 1 (la 2) - q 1 (lb c))) + (farZ (q 2 (la 2)) (q 3 (la 2)) (q 2 (lb c)) (q 3 (lb c))) + (if 0 ≤ (q 4 (la 2) - q 4 (lb c)) then (q 4 (la 2) - q 4 (lb c)) else -(q 4 (la 2) - q 4 (lb c)))) * 23298085122481) + ((((c + 1 : Nat) : Int) - 1) * ((dgP (2 + 1) : Nat) : Int))))), (19, oL 2 25 (C 4)), (20, oL 2 25 (C 5)), (21, oL 2 25 (C 6)), (22, oL 2 25 (C 7)), (23, oL 2 25 (C 8)), (24, oL 2 25 (C 9)), (25, oL 2 25 (C 10)), (26, oL 2 25 (C 11)), (27, oL 2 25 (C 12))])) G dX3_fillCosts_140 rfl rfl (by omega) (by decide) rfl ?_
                refine wp_iinc (lv' := [(9, zI (((c + 1 : Nat) : Int) + 1)), (10, zJ ((((if 0 ≤ (q 1 (la 2) - q 1 (lb c)) then (q 1 (la 2) - q 1 (lb c)) else -(q 1 (la 2) - q 1 (lb c))) + (farZ (q 2 (la 2)) (q 3 (la 2)) (q 2 (lb c)) (q 3 (lb c))) + (if 0 ≤ (q 4 (la 2) - q 4 (lb c)) then (q 4 (la 2) - q 4 (lb c)) else -(q 4 (la 2) - q 4 (lb c)))) * 23298085122481) + ((((c + 1 : Nat) : Int) - 1) * ((dgP (2 + 1) : Nat) : Int)))), (13, zI (bt ((if 0 ≤ (q 1 (la 2) - q 1 (lb c)) then (q 1 (la 2) - q 1 (lb c)) else -(q 1 (la 2) - q 1 (lb c))) ≤ (st 0) ∧ (farZ (q 2 (la 2)) (q 3 (la 2)) (q 2 (lb c)) (q 3 (lb c))) ≤ (st 1) ∧ (if 0 ≤ (q 4 (la 2) - q 4 (lb c)) then (q 4 (la 2) - q 4 (lb c)) else -(q 4 (la 2) - q 4 (lb c))) ≤ (st 2)))), (12, zI ((lb c : Nat) : Int)), (0, zR 11), (1, zR 2), (2, zI (st 0)), (3, zI (st 1)), (4, zI (st 2)), (5, zJ ((dgP (2 + 1) : Nat) : Int)), (7, zI ((2 + 1 : Nat) : Int)), (8, zI ((la 2 : Nat) : Int))]) G 11 dX3_fillCosts_141 rfl (by decide) rfl ?_
                refine wp_goto G dX3_fillCosts_144 ?_
                refine wp_lv [4, 5, 6, 7, 8, 9, 10, 11, 0] rfl ?_
                exact ih39 (c + 1) (fup Kr (c + 1) ((((if 0 ≤ (q 1 (la 2) - q 1 (lb c)) then (q 1 (la 2) - q 1 (lb c)) else -(q 1 (la 2) - q 1 (lb c))) + (farZ (q 2 (la 2)) (q 3 (la 2)) (q 2 (lb c)) (q 3 (lb c))) + (if 0 ≤ (q 4 (la 2) - q 4 (lb c)) then (q 4 (la 2) - q 4 (lb c)) else -(q 4 (la 2) - q 4 (lb c)))) * 23298085122481) + ((((c + 1 : Nat) : Int) - 1) * ((dgP (2 + 1) : Nat) : Int)))) (((c + 1 : Nat) : Int) + 1) (by omega) (by omega) (by omega) (by exact f_put hK (by first | exact kst_a (by omega) | exact kst_s (by omega) (by assumption) | exact kst_n (by omega) (by assumption)))
      · skip
        refine wp_lload G 5 dX3_fillCosts_17 rfl ?_
        refine wp_ldc2 (z := 13) G kX3_88 dX3_fillCosts_19 ?_
        refine wp_ldiv G (by omega) (by omega) (by omega) (by omega) dX3_fillCosts_22 ?_
        rw [show ((((dgP 3 : Nat) : Int) / 13) : Int) = ((dgP (3 + 1) : Nat) : Int) from dg_s (by omega)]
        refine wp_lstore (lv' := [(5, zJ ((dgP (3 + 1) : Nat) : Int)), (0, zR 11), (1, zR 2), (2, zI (st 0)), (3, zI (st 1)), (4, zI (st 2)), (7, zI ((3 + 1 : Nat) : Int))]) G dX3_fillCosts_23 (by decide) rfl ?_
        refine wp_aload_n G 1 dX3_fillCosts_25 rfl ?_
        refine wp_get G 5 cOk3 fX3_27 dX3_fillCosts_26 h11 rfl ?_
        refine wp_iload G 6 dX3_fillCosts_29 rfl ?_
        refine wp_iconst G dX3_fillCosts_31 ?_
        refine wp_isub G dX3_fillCosts_32 ?_
        refine wp_iald (j := 3) G dX3_fillCosts_33 h12 (by omega) (by omega) (by decide) ?_
        rw [(hA 3 (by omega)).1]
        have hak := (hA 3 (by omega)).2
        refine wp_istore (lv' := [(8, zI ((la 3 : Nat) : Int)), (5, zJ ((dgP (3 + 1) : Nat) : Int)), (0, zR 11), (1, zR 2), (2, zI (st 0)), (3, zI (st 1)), (4, zI (st 2)), (7, zI ((3 + 1 : Nat) : Int))]) G dX3_fillCosts_34 (by decide) rfl ?_
        refine wp_iconst G dX3_fillCosts_36 ?_
        refine wp_istore (lv' := [(9, zI 1), (8, zI ((la 3 : Nat) : Int)), (5, zJ ((dgP (3 + 1) : Nat) : Int)), (0, zR 11), (1, zR 2), (2, zI (st 0)), (3, zI (st 1)), (4, zI (st 2)), (7, zI ((3 + 1 : Nat) : Int))]) G dX3_fillCosts_37 (by decide) rfl ?_
        refine wp_lv [3, 4, 5, 6, 7, 2, 8, 1, 0] rfl ?_
        suffices lp39 : ∀ (fu : Nat) (c : Nat) (Kr : Nat → Int) (v9 : Int), cl - c < fu → (v9 = ((c + 1 : Nat) : Int)) → (c ≤ cl) → (∀ j, 1 ≤ j → j ≤ c → Kr j = kst (XJ q st la lb) pt (3 + 1) j) → Wp K 14 (Mx K h (fun rr nx' l' => ∃ (C : Nat → Nat → Int), (∀ i, 1 ≤ i → i ≤ rw_ → ∀ j, 1 ≤ j → j ≤ cl → C i j = kst (XJ q st la lb) pt (i) j) ∧ rr = none ∧ nx' = nx ∧ l' = [(15, oL 2 25 (C 0)), (16, oL 2 25 (C 1)), (17, oL 2 25 (C 2)), (18, oL 2 25 (C 3)), (19, oL 2 25 (C 4)), (20, oL 2 25 (C 5)), (21, oL 2 25 (C 6)), (22, oL 2 25 (C 7)), (23, oL 2 25 (C 8)), (24, oL 2 25 (C 9)), (25, oL 2 25 (C 10)), (26, oL 2 25 (C 11)), (27, oL 2 25 (C 12))]) (0, 0)) (0, 0) 39 [(0, zR 11), (1, zR 2), (2, zI (st 0)), (3, zI (st 1)), (4, zI (st 2)), (5, zJ ((dgP (3 + 1) : Nat) : Int)), (7, zI ((3 + 1 : Nat) : Int)), (8, zI ((la 3 : Nat) : Int)), (9, zI v9)] [] (nx, h, [(15, oL 2 25 (C 0)), (16, oL 2 25 (C 1)), (17, oL 2 25 (C 2)), (18, oL 2 25 (C 3)), (19, oL 2 25 Kr), (20, oL 2 25 (C 5)), (21, oL 2 25 (C 6)), (22, oL 2 25 (C 7)), (23, oL 2 25 (C 8)), (24, oL 2 25 (C 9)), (25, oL 2 25 (C 10)), (26, oL 2 25 (C 11)), (27, oL 2 25 (C 12))]) from lp39 _ 0 (C 4) 1 (Nat.lt_succ_self _) (by omega) (by omega) (by intro j h1 h2; omega)
        intro fu
        induction fu with
        | zero => intro c Kr v9 hm; exact absurd hm (Nat.not_lt_zero _)
        | succ fu ih39 =>
          intro c Kr v9 hm39 e9 hi0 hK
          subst e9
          refine wp_iload G 8 dX3_fillCosts_39 rfl ?_
          refine wp_aload_n G 0 dX3_fillCosts_41 rfl ?_
          refine wp_get G 4 cOk3 fX3_24 dX3_fillCosts_42 h11 rfl ?_
          refine wp_icmp_gt G dX3_fillCosts_45 (by omega) (by omega) (fun kq11 => ?_) (fun kq11 => ?_)
          · skip
            refine wp_iinc (lv' := [(7, zI (((3 + 1 : Nat) : Int) + 1)), (0, zR 11), (1, zR 2), (2, zI (st 0)), (3, zI (st 1)), (4, zI (st 2)), (5, zJ ((dgP (3 + 1) : Nat) : Int)), (8, zI ((la 3 : Nat) : Int)), (9, zI ((c + 1 : Nat) : Int))]) G 6 dX3_fillCosts_147 rfl (by decide) rfl ?_
            refine wp_goto G dX3_fillCosts_150 ?_
            refine wp_lv [1, 2, 3, 4, 5, 6, 0] rfl ?_
            exact ih8 (3 + 1) (fup C (3 + 1) Kr) ((dgP (3 + 1) : Nat) : Int) (((3 + 1 : Nat) : Int) + 1) (by omega) (by rfl) (by omega) (by omega) (by exact r_put hK0 (fun j h1 h2 => hK j h1 (by omega)))
          · skip
            refine wp_ldc2 (z := 23298085122481000) G kX3_90 dX3_fillCosts_48 ?_
            refine wp_ldc2 (z := 12) G kX3_92 dX3_fillCosts_51 ?_
            refine wp_lload G 5 dX3_fillCosts_54 rfl ?_
            refine wp_lmul G dX3_fillCosts_56 ?_
            refine wp_ladd G dX3_fillCosts_57 ?_
            refine wp_lstore (lv' := [(10, zJ (23298085122481000 + (12 * ((dgP (3 + 1) : Nat) : Int)))), (0, zR 11), (1, zR 2), (2, zI (st 0)), (3, zI (st 1)), (4, zI (st 2)), (5, zJ ((dgP (3 + 1) : Nat) : Int)), (7, zI ((3 + 1 : Nat) : Int)), (8, zI ((la 3 : Nat) : Int)), (9, zI ((c + 1 : Nat) : Int))]) G dX3_fillCosts_58 (by decide) rfl ?_
            refine wp_iload G 9 dX3_fillCosts_60 rfl ?_
            refine wp_aload_n G 1 dX3_fillCosts_62 rfl ?_
            refine wp_get G 3 cOk3 fX3_21 dX3_fillCosts_63 h11 rfl ?_
            refine wp_icmp_gt G dX3_fillCosts_66 (by omega) (by omega) (fun kq12 => ?_) (fun kq12 => ?_)
            · skip
              refine wp_aload_n G 1 dX3_fillCosts_129 rfl ?_
              refine wp_get G 7 cOk3 fX3_36 dX3_fillCosts_130 h11 rfl ?_
              refine wp_iload G 7 dX3_fillCosts_133 rfl ?_
              refine wp_aald (j := 3 + 1) G (by decide) (by decide) dX3_fillCosts_135 h14 rfl (by omega) (by decide) ?_
              show Wp K 14 (Mx K h (fun rr nx' l' => ∃ (C : Nat → Nat → Int), (∀ i, 1 ≤ i → i ≤ rw_ → ∀ j, 1 ≤ j → j ≤ cl → C i j = kst (XJ q st la lb) pt (i) j) ∧ rr = none ∧ nx' = nx ∧ l' = [(15, oL 2 25 (C 0)), (16, oL 2 25 (C 1)), (17, oL 2 25 (C 2)), (18, oL 2 25 (C 3)), (19, oL 2 25 (C 4)), (20, oL 2 25 (C 5)), (21, oL 2 25 (C 6)), (22, oL 2 25 (C 7)), (23, oL 2 25 (C 8)), (24, oL 2 25 (C 9)), (25, oL 2 25 (C 10)), (26, oL 2 25 (C 11)), (27, oL 2 25 (C 12))]) (0, 0)) (0, 0) 136 [(10, zJ (23298085122481000 + (12 * ((dgP (3 + 1) : Nat) : Int)))), (0, zR 11), (1, zR 2), (2, zI (st 0)), (3, zI (st 1)), (4, zI (st 2)), (5, zJ ((dgP (3 + 1) : Nat) : Int)), (7, zI ((3 + 1 : Nat) : Int)), (8, zI ((la 3 : Nat) : Int)), (9, zI ((c + 1 : Nat) : Int))] [zR 19] (nx, h, [(15, oL 2 25 (C 0)), (16, oL 2 25 (C 1)), (17, oL 2 25 (C 2)), (18, oL 2 25 (C 3)), (19, oL 2 25 Kr), (20, oL 2 25 (C 5)), (21, oL 2 25 (C 6)), (22, oL 2 25 (C 7)), (23, oL 2 25 (C 8)), (24, oL 2 25 (C 9)), (25, oL 2 25 (C 10)), (26, oL 2 25 (C 11)), (27, oL 2 25 (C 12))])
              refine wp_iload G 9 dX3_fillCosts_136 rfl ?_
              refine wp_lload G 0 dX3_fillCosts_138 rfl ?_
              refine wp_lastE (j := c + 1) (hp2 := (nx, h, [(15, oL 2 25 (C 0)), (16, oL 2 25 (C 1)), (17, oL 2 25 (C 2)), (18, oL 2 25 (C 3)), (19, oL 2 25 (fup Kr (c + 1) (23298085122481000 + (12 * ((dgP (3 + 1) : Nat) : Int))))), (20, oL 2 25 (C 5)), (21, oL 2 25 (C 6)), (22, oL 2 25 (C 7)), (23, oL 2 25 (C 8)), (24, oL 2 25 (C 9)), (25, oL 2 25 (C 10)), (26, oL 2 25 (C 11)), (27, oL 2 25 (C 12))])) G dX3_fillCosts_140 rfl rfl (by omega) (by decide) rfl ?_
              refine wp_iinc (lv' := [(9, zI (((c + 1 : Nat) : Int) + 1)), (10, zJ (23298085122481000 + (12 * ((dgP (3 + 1) : Nat) : Int)))), (0, zR 11), (1, zR 2), (2, zI (st 0)), (3, zI (st 1)), (4, zI (st 2)), (5, zJ ((dgP (3 + 1) : Nat) : Int)), (7, zI ((3 + 1 : Nat) : Int)), (8, zI ((la 3 : Nat) : Int))]) G 9 dX3_fillCosts_141 rfl (by decide) rfl ?_
              refine wp_goto G dX3_fillCosts_144 ?_
              refine wp_lv [2, 3, 4, 5, 6, 7, 8, 9, 0] rfl ?_
              exact ih39 (c + 1) (fup Kr (c + 1) (23298085122481000 + (12 * ((dgP (3 + 1) : Nat) : Int)))) (((c + 1 : Nat) : Int) + 1) (by omega) (by omega) (by omega) (by exact f_put hK (by first | exact kst_a (by omega) | exact kst_s (by omega) (by assumption) | exact kst_n (by omega) (by assumption)))
            · skip
              refine wp_aload_n G 1 dX3_fillCosts_69 rfl ?_
              refine wp_get G 6 cOk3 fX3_31 dX3_fillCosts_70 h11 rfl ?_
              refine wp_iload G 9 dX3_fillCosts_73 rfl ?_
              refine wp_iconst G dX3_fillCosts_75 ?_
              refine wp_isub G dX3_fillCosts_76 ?_
              refine wp_iald (j := c) G dX3_fillCosts_77 h13 (by omega) (by omega) (by decide) ?_
              rw [(hB c (by omega)).1]
              have hbc := (hB c (by omega)).2
              have hmb := mis_b hO hak hbc
              refine wp_istore (lv' := [(12, zI ((lb c : Nat) : Int)), (10, zJ (23298085122481000 + (12 * ((dgP (3 + 1) : Nat) : Int)))), (0, zR 11), (1, zR 2), (2, zI (st 0)), (3, zI (st 1)), (4, zI (st 2)), (5, zJ ((dgP (3 + 1) : Nat) : Int)), (7, zI ((3 + 1 : Nat) : Int)), (8, zI ((la 3 : Nat) : Int)), (9, zI ((c + 1 : Nat) : Int))]) G dX3_fillCosts_78 (by decide) rfl ?_
              refine wp_aload_n G 3 dX3_fillCosts_80 rfl ?_
              refine wp_iload G 9 dX3_fillCosts_81 rfl ?_
              refine wp_iload G 0 dX3_fillCosts_83 rfl ?_
              refine wp_iload_n G 4 dX3_fillCosts_85 rfl ?_
              refine wp_iload_n G 5 dX3_fillCosts_86 rfl ?_
              refine wp_iload G 6 dX3_fillCosts_87 rfl ?_
              refine wp_cSE (as := [zR 2, zI ((la 3 : Nat) : Int), zI ((lb c : Nat) : Int), zI (st 0), zI (st 1), zI (st 2)]) (rest := []) (hp2 := (nx, h, [(15, oL 2 25 (C 0)), (16, oL 2 25 (C 1)), (17, oL 2 25 (C 2)), (18, oL 2 25 (C 3)), (19, oL 2 25 Kr), (20, oL 2 25 (C 5)), (21, oL 2 25 (C 6)), (22, oL 2 25 (C 7)), (23, oL 2 25 (C 8)), (24, oL 2 25 (C 9)), (25, oL 2 25 (C 10)), (26, oL 2 25 (C 11)), (27, oL 2 25 (C 12))])) G mX3_maySame lX3_94 sX3_maySame dX3_fillCosts_89 rfl rfl (Nat.le_of_ble_eq_true rfl) (rmx_ok hR (by decide) (by decide) (by decide) (by decide)) (t_X3_maySame (nx := nx) (i := (la 3)) (j := (lb c)) (dd := (st 0)) (ff := (st 1)) (tt := (st 2)) hQ hO (by omega) (by omega) (by omega) (by omega) (by omega)) rfl ?_
              refine wp_istore (lv' := [(13, zI (bt ((if 0 ≤ (q 1 (la 3) - q 1 (lb c)) then (q 1 (la 3) - q 1 (lb c)) else -(q 1 (la 3) - q 1 (lb c))) ≤ (st 0) ∧ (farZ (q 2 (la 3)) (q 3 (la 3)) (q 2 (lb c)) (q 3 (lb c))) ≤ (st 1) ∧ (if 0 ≤ (q 4 (la 3) - q 4 (lb c)) then (q 4 (la 3) - q 4 (lb c)) else -(q 4 (la 3) - q 4 (lb c))) ≤ (st 2)))), (12, zI ((lb c : Nat) : Int)), (10, zJ (23298085122481000 + (12 * ((dgP (3 + 1) : Nat) : Int)))), (0, zR 11), (1, zR 2), (2, zI (st 0)), (3, zI (st 1)), (4, zI (st 2)), (5, zJ ((dgP (3 + 1) : Nat) : Int)), (7, zI ((3 + 1 : Nat) : Int)), (8, zI ((la 3 : Nat) : Int)), (9, zI ((c + 1 : Nat) : Int))]) G dX3_fillCosts_92 (by decide) rfl ?_
              refine wp_iload G 0 dX3_fillCosts_94 rfl ?_
              refine wp_ifeq_bt G dX3_fillCosts_96 (fun kq13 => ?_) (fun kq13 => ?_)
              · skip
                refine wp_ldc2 (z := 1000000000000000000) G kX3_102 dX3_fillCosts_124 ?_
                refine wp_lstore (lv' := [(10, zJ 1000000000000000000), (13, zI (bt ((if 0 ≤ (q 1 (la 3) - q 1 (lb c)) then (q 1 (la 3) - q 1 (lb c)) else -(q 1 (la 3) - q 1 (lb c))) ≤ (st 0) ∧ (farZ (q 2 (la 3)) (q 3 (la 3)) (q 2 (lb c)) (q 3 (lb c))) ≤ (st 1) ∧ (if 0 ≤ (q 4 (la 3) - q 4 (lb c)) then (q 4 (la 3) - q 4 (lb c)) else -(q 4 (la 3) - q 4 (lb c))) ≤ (st 2)))), (12, zI ((lb c : Nat) : Int)), (0, zR 11), (1, zR 2), (2, zI (st 0)), (3, zI (st 1)), (4, zI (st 2)), (5, zJ ((dgP (3 + 1) : Nat) : Int)), (7, zI ((3 + 1 : Nat) : Int)), (8, zI ((la 3 : Nat) : Int)), (9, zI ((c + 1 : Nat) : Int))]) G dX3_fillCosts_127 (by decide) rfl ?_
                refine wp_aload_n G 3 dX3_fillCosts_129 rfl ?_
                refine wp_get G 7 cOk3 fX3_36 dX3_fillCosts_130 h11 rfl ?_
                refine wp_iload G 9 dX3_fillCosts_133 rfl ?_
                refine wp_aald (j := 3 + 1) G (by decide) (by decide) dX3_fillCosts_135 h14 rfl (by omega) (by decide) ?_
                show Wp K 14 (Mx K h (fun rr nx' l' => ∃ (C : Nat → Nat → Int), (∀ i, 1 ≤ i → i ≤ rw_ → ∀ j, 1 ≤ j → j ≤ cl → C i j = kst (XJ q st la lb) pt (i) j) ∧ rr = none ∧ nx' = nx ∧ l' = [(15, oL 2 25 (C 0)), (16, oL 2 25 (C 1)), (17, oL 2 25 (C 2)), (18, oL 2 25 (C 3)), (19, oL 2 25 (C 4)), (20, oL 2 25 (C 5)), (21, oL 2 25 (C 6)), (22, oL 2 25 (C 7)), (23, oL 2 25 (C 8)), (24, oL 2 25 (C 9)), (25, oL 2 25 (C 10)), (26, oL 2 25 (C 11)), (27, oL 2 25 (C 12))]) (0, 0)) (0, 0) 136 [(10, zJ 1000000000000000000), (13, zI (bt ((if 0 ≤ (q 1 (la 3) - q 1 (lb c)) then (q 1 (la 3) - q 1 (lb c)) else -(q 1 (la 3) - q 1 (lb c))) ≤ (st 0) ∧ (farZ (q 2 (la 3)) (q 3 (la 3)) (q 2 (lb c)) (q 3 (lb c))) ≤ (st 1) ∧ (if 0 ≤ (q 4 (la 3) - q 4 (lb c)) then (q 4 (la 3) - q 4 (lb c)) else -(q 4 (la 3) - q 4 (lb c))) ≤ (st 2)))), (12, zI ((lb c : Nat) : Int)), (0, zR 11), (1, zR 2), (2, zI (st 0)), (3, zI (st 1)), (4, zI (st 2)), (5, zJ ((dgP (3 + 1) : Nat) : Int)), (7, zI ((3 + 1 : Nat) : Int)), (8, zI ((la 3 : Nat) : Int)), (9, zI ((c + 1 : Nat) : Int))] [zR 19] (nx, h, [(15, oL 2 25 (C 0)), (16, oL 2 25 (C 1)), (17, oL 2 25 (C 2)), (18, oL 2 25 (C 3)), (19, oL 2 25 Kr), (20, oL 2 25 (C 5)), (21, oL 2 25 (C 6)), (22, oL 2 25 (C 7)), (23, oL 2 25 (C 8)), (24, oL 2 25 (C 9)), (25, oL 2 25 (C 10)), (26, oL 2 25 (C 11)), (27, oL 2 25 (C 12))])
                refine wp_iload G 11 dX3_fillCosts_136 rfl ?_
                refine wp_lload G 0 dX3_fillCosts_138 rfl ?_
                refine wp_lastE (j := c + 1) (hp2 := (nx, h, [(15, oL 2 25 (C 0)), (16, oL 2 25 (C 1)), (17, oL 2 25 (C 2)), (18, oL 2 25 (C 3)), (19, oL 2 25 (fup Kr (c + 1) 1000000000000000000)), (20, oL 2 25 (C 5)), (21, oL 2 25 (C 6)), (22, oL 2 25 (C 7)), (23, oL 2 25 (C 8)), (24, oL 2 25 (C 9)), (25, oL 2 25 (C 10)), (26, oL 2 25 (C 11)), (27, oL 2 25 (C 12))])) G dX3_fillCosts_140 rfl rfl (by omega) (by decide) rfl ?_
                refine wp_iinc (lv' := [(9, zI (((c + 1 : Nat) : Int) + 1)), (10, zJ 1000000000000000000), (13, zI (bt ((if 0 ≤ (q 1 (la 3) - q 1 (lb c)) then (q 1 (la 3) - q 1 (lb c)) else -(q 1 (la 3) - q 1 (lb c))) ≤ (st 0) ∧ (farZ (q 2 (la 3)) (q 3 (la 3)) (q 2 (lb c)) (q 3 (lb c))) ≤ (st 1) ∧ (if 0 ≤ (q 4 (la 3) - q 4 (lb c)) then (q 4 (la 3) - q 4 (lb c)) else -(q 4 (la 3) - q 4 (lb c))) ≤ (st 2)))), (12, zI ((lb c : Nat) : Int)), (0, zR 11), (1, zR 2), (2, zI (st 0)), (3, zI (st 1)), (4, zI (st 2)), (5, zJ ((dgP (3 + 1) : Nat) : Int)), (7, zI ((3 + 1 : Nat) : Int)), (8, zI ((la 3 : Nat) : Int))]) G 11 dX3_fillCosts_141 rfl (by decide) rfl ?_
                refine wp_goto G dX3_fillCosts_144 ?_
                refine wp_lv [4, 5, 6, 7, 8, 9, 10, 11, 0] rfl ?_
                exact ih39 (c + 1) (fup Kr (c + 1) 1000000000000000000) (((c + 1 : Nat) : Int) + 1) (by omega) (by omega) (by omega) (by exact f_put hK (by first | exact kst_a (by omega) | exact kst_s (by omega) (by assumption) | exact kst_n (by omega) (by assumption)))
              · skip
                refine wp_aload_n G 4 dX3_fillCosts_99 rfl ?_
                refine wp_iload G 10 dX3_fillCosts_100 rfl ?_
                refine wp_iload G 1 dX3_fillCosts_102 rfl ?_
                refine wp_cSE (as := [zR 2, zI ((la 3 : Nat) : Int), zI ((lb c : Nat) : Int)]) (rest := []) (hp2 := (nx, h, [(15, oL 2 25 (C 0)), (16, oL 2 25 (C 1)), (17, oL 2 25 (C 2)), (18, oL 2 25 (C 3)), (19, oL 2 25 Kr), (20, oL 2 25 (C 5)), (21, oL 2 25 (C 6)), (22, oL 2 25 (C 7)), (23, oL 2 25 (C 8)), (24, oL 2 25 (C 9)), (25, oL 2 25 (C 10)), (26, oL 2 25 (C 11)), (27, oL 2 25 (C 12))])) G mX3_missOf lX3_98 sX3_missOf dX3_fillCosts_104 rfl rfl (Nat.le_of_ble_eq_true rfl) (rmx_ok hR (by decide) (by decide) (by decide) (by decide)) (t_X3_missOf (nx := nx) (i := (la 3)) (j := (lb c)) hQ hO (by omega) (by omega)) rfl ?_
                refine wp_i2l G (by omega) dX3_fillCosts_107 ?_
                refine wp_ldc2 (z := 23298085122481) G kX3_86 dX3_fillCosts_108 ?_
                refine wp_lmul G dX3_fillCosts_111 ?_
                refine wp_iload G 11 dX3_fillCosts_112 rfl ?_
                refine wp_iconst G dX3_fillCosts_114 ?_
                refine wp_isub G dX3_fillCosts_115 ?_
                refine wp_i2l G (by omega) dX3_fillCosts_116 ?_
                refine wp_lload G 8 dX3_fillCosts_117 rfl ?_
                refine wp_lmul G dX3_fillCosts_119 ?_
                refine wp_ladd G dX3_fillCosts_120 ?_
                refine wp_goto G dX3_fillCosts_121 ?_
                refine wp_lstore (lv' := [(10, zJ ((((if 0 ≤ (q 1 (la 3) - q 1 (lb c)) then (q 1 (la 3) - q 1 (lb c)) else -(q 1 (la 3) - q 1 (lb c))) + (farZ (q 2 (la 3)) (q 3 (la 3)) (q 2 (lb c)) (q 3 (lb c))) + (if 0 ≤ (q 4 (la 3) - q 4 (lb c)) then (q 4 (la 3) - q 4 (lb c)) else -(q 4 (la 3) - q 4 (lb c)))) * 23298085122481) + ((((c + 1 : Nat) : Int) - 1) * ((dgP (3 + 1) : Nat) : Int)))), (13, zI (bt ((if 0 ≤ (q 1 (la 3) - q 1 (lb c)) then (q 1 (la 3) - q 1 (lb c)) else -(q 1 (la 3) - q 1 (lb c))) ≤ (st 0) ∧ (farZ (q 2 (la 3)) (q 3 (la 3)) (q 2 (lb c)) (q 3 (lb c))) ≤ (st 1) ∧ (if 0 ≤ (q 4 (la 3) - q 4 (lb c)) then (q 4 (la 3) - q 4 (lb c)) else -(q 4 (la 3) - q 4 (lb c))) ≤ (st 2)))), (12, zI ((lb c : Nat) : Int)), (0, zR 11), (1, zR 2), (2, zI (st 0)), (3, zI (st 1)), (4, zI (st 2)), (5, zJ ((dgP (3 + 1) : Nat) : Int)), (7, zI ((3 + 1 : Nat) : Int)), (8, zI ((la 3 : Nat) : Int)), (9, zI ((c + 1 : Nat) : Int))]) G dX3_fillCosts_127 (by decide) rfl ?_
                refine wp_aload_n G 3 dX3_fillCosts_129 rfl ?_
                refine wp_get G 7 cOk3 fX3_36 dX3_fillCosts_130 h11 rfl ?_
                refine wp_iload G 9 dX3_fillCosts_133 rfl ?_
                refine wp_aald (j := 3 + 1) G (by decide) (by decide) dX3_fillCosts_135 h14 rfl (by omega) (by decide) ?_
                show Wp K 14 (Mx K h (fun rr nx' l' => ∃ (C : Nat → Nat → Int), (∀ i, 1 ≤ i → i ≤ rw_ → ∀ j, 1 ≤ j → j ≤ cl → C i j = kst (XJ q st la lb) pt (i) j) ∧ rr = none ∧ nx' = nx ∧ l' = [(15, oL 2 25 (C 0)), (16, oL 2 25 (C 1)), (17, oL 2 25 (C 2)), (18, oL 2 25 (C 3)), (19, oL 2 25 (C 4)), (20, oL 2 25 (C 5)), (21, oL 2 25 (C 6)), (22, oL 2 25 (C 7)), (23, oL 2 25 (C 8)), (24, oL 2 25 (C 9)), (25, oL 2 25 (C 10)), (26, oL 2 25 (C 11)), (27, oL 2 25 (C 12))]) (0, 0)) (0, 0) 136 [(10, zJ ((((if 0 ≤ (q 1 (la 3) - q 1 (lb c)) then (q 1 (la 3) - q 1 (lb c)) else -(q 1 (la 3) - q 1 (lb c))) + (farZ (q 2 (la 3)) (q 3 (la 3)) (q 2 (lb c)) (q 3 (lb c))) + (if 0 ≤ (q 4 (la 3) - q 4 (lb c)) then (q 4 (la 3) - q 4 (lb c)) else -(q 4 (la 3) - q 4 (lb c)))) * 23298085122481) + ((((c + 1 : Nat) : Int) - 1) * ((dgP (3 + 1) : Nat) : Int)))), (13, zI (bt ((if 0 ≤ (q 1 (la 3) - q 1 (lb c)) then (q 1 (la 3) - q 1 (lb c)) else -(q 1 (la 3) - q 1 (lb c))) ≤ (st 0) ∧ (farZ (q 2 (la 3)) (q 3 (la 3)) (q 2 (lb c)) (q 3 (lb c))) ≤ (st 1) ∧ (if 0 ≤ (q 4 (la 3) - q 4 (lb c)) then (q 4 (la 3) - q 4 (lb c)) else -(q 4 (la 3) - q 4 (lb c))) ≤ (st 2)))), (12, zI ((lb c : Nat) : Int)), (0, zR 11), (1, zR 2), (2, zI (st 0)), (3, zI (st 1)), (4, zI (st 2)), (5, zJ ((dgP (3 + 1) : Nat) : Int)), (7, zI ((3 + 1 : Nat) : Int)), (8, zI ((la 3 : Nat) : Int)), (9, zI ((c + 1 : Nat) : Int))] [zR 19] (nx, h, [(15, oL 2 25 (C 0)), (16, oL 2 25 (C 1)), (17, oL 2 25 (C 2)), (18, oL 2 25 (C 3)), (19, oL 2 25 Kr), (20, oL 2 25 (C 5)), (21, oL 2 25 (C 6)), (22, oL 2 25 (C 7)), (23, oL 2 25 (C 8)), (24, oL 2 25 (C 9)), (25, oL 2 25 (C 10)), (26, oL 2 25 (C 11)), (27, oL 2 25 (C 12))])
                refine wp_iload G 11 dX3_fillCosts_136 rfl ?_
                refine wp_lload G 0 dX3_fillCosts_138 rfl ?_
                refine wp_lastE (j := c + 1) (hp2 := (nx, h, [(15, oL 2 25 (C 0)), (16, oL 2 25 (C 1)), (17, oL 2 25 (C 2)), (18, oL 2 25 (C 3)), (19, oL 2 25 (fup Kr (c + 1) ((((if 0 ≤ (q 1 (la 3) - q 1 (lb c)) then (q 1 (la 3) - q 1 (lb c)) else -(q 1 (la 3) - q 1 (lb c))) + (farZ (q 2 (la 3)) (q 3 (la 3)) (q 2 (lb c)) (q 3 (lb c))) + (if 0 ≤ (q 4 (la 3) - q 4 (lb c)) then (q 4 (la 3) - q 4 (lb c)) else -(q 4 (la 3) - q 4 (lb c)))) * 23298085122481) + ((((c + 1 : Nat) : Int) - 1) * ((dgP (3 + 1) : Nat) : Int))))), (20, oL 2 25 (C 5)), (21, oL 2 25 (C 6)), (22, oL 2 25 (C 7)), (23, oL 2 25 (C 8)), (24, oL 2 25 (C 9)), (25, oL 2 25 (C 10)), (26, oL 2 25 (C 11)), (27, oL 2 25 (C 12))])) G dX3_fillCosts_140 rfl rfl (by omega) (by decide) rfl ?_
                refine wp_iinc (lv' := [(9, zI (((c + 1 : Nat) : Int) + 1)), (10, zJ ((((if 0 ≤ (q 1 (la 3) - q 1 (lb c)) then (q 1 (la 3) - q 1 (lb c)) else -(q 1 (la 3) - q 1 (lb c))) + (farZ (q 2 (la 3)) (q 3 (la 3)) (q 2 (lb c)) (q 3 (lb c))) + (if 0 ≤ (q 4 (la 3) - q 4 (lb c)) then (q 4 (la 3) - q 4 (lb c)) else -(q 4 (la 3) - q 4 (lb c)))) * 23298085122481) + ((((c + 1 : Nat) : Int) - 1) * ((dgP (3 + 1) : Nat) : Int)))), (13, zI (bt ((if 0 ≤ (q 1 (la 3) - q 1 (lb c)) then (q 1 (la 3) - q 1 (lb c)) else -(q 1 (la 3) - q 1 (lb c))) ≤ (st 0) ∧ (farZ (q 2 (la 3)) (q 3 (la 3)) (q 2 (lb c)) (q 3 (lb c))) ≤ (st 1) ∧ (if 0 ≤ (q 4 (la 3) - q 4 (lb c)) then (q 4 (la 3) - q 4 (lb c)) else -(q 4 (la 3) - q 4 (lb c))) ≤ (st 2)))), (12, zI ((lb c : Nat) : Int)), (0, zR 11), (1, zR 2), (2, zI (st 0)), (3, zI (st 1)), (4, zI (st 2)), (5, zJ ((dgP (3 + 1) : Nat) : Int)), (7, zI ((3 + 1 : Nat) : Int)), (8, zI ((la 3 : Nat) : Int))]) G 11 dX3_fillCosts_141 rfl (by decide) rfl ?_
                refine wp_goto G dX3_fillCosts_144 ?_
                refine wp_lv [4, 5, 6, 7, 8, 9, 10, 11, 0] rfl ?_
                exact ih39 (c + 1) (fup Kr (c + 1) ((((if 0 ≤ (q 1 (la 3) - q 1 (lb c)) then (q 1 (la 3) - q 1 (lb c)) else -(q 1 (la 3) - q 1 (lb c))) + (farZ (q 2 (la 3)) (q 3 (la 3)) (q 2 (lb c)) (q 3 (lb c))) + (if 0 ≤ (q 4 (la 3) - q 4 (lb c)) then (q 4 (la 3) - q 4 (lb c)) else -(q 4 (la 3) - q 4 (lb c)))) * 23298085122481) + ((((c + 1 : Nat) : Int) - 1) * ((dgP (3 + 1) : Nat) : Int)))) (((c + 1 : Nat) : Int) + 1) (by omega) (by omega) (by omega) (by exact f_put hK (by first | exact kst_a (by omega) | exact kst_s (by omega) (by assumption) | exact kst_n (by omega) (by assumption)))
      · skip
        refine wp_lload G 5 dX3_fillCosts_17 rfl ?_
        refine wp_ldc2 (z := 13) G kX3_88 dX3_fillCosts_19 ?_
        refine wp_ldiv G (by omega) (by omega) (by omega) (by omega) dX3_fillCosts_22 ?_
        rw [show ((((dgP 4 : Nat) : Int) / 13) : Int) = ((dgP (4 + 1) : Nat) : Int) from dg_s (by omega)]
        refine wp_lstore (lv' := [(5, zJ ((dgP (4 + 1) : Nat) : Int)), (0, zR 11), (1, zR 2), (2, zI (st 0)), (3, zI (st 1)), (4, zI (st 2)), (7, zI ((4 + 1 : Nat) : Int))]) G dX3_fillCosts_23 (by decide) rfl ?_
        refine wp_aload_n G 1 dX3_fillCosts_25 rfl ?_
        refine wp_get G 5 cOk3 fX3_27 dX3_fillCosts_26 h11 rfl ?_
        refine wp_iload G 6 dX3_fillCosts_29 rfl ?_
        refine wp_iconst G dX3_fillCosts_31 ?_
        refine wp_isub G dX3_fillCosts_32 ?_
        refine wp_iald (j := 4) G dX3_fillCosts_33 h12 (by omega) (by omega) (by decide) ?_
        rw [(hA 4 (by omega)).1]
        have hak := (hA 4 (by omega)).2
        refine wp_istore (lv' := [(8, zI ((la 4 : Nat) : Int)), (5, zJ ((dgP (4 + 1) : Nat) : Int)), (0, zR 11), (1, zR 2), (2, zI (st 0)), (3, zI (st 1)), (4, zI (st 2)), (7, zI ((4 + 1 : Nat) : Int))]) G dX3_fillCosts_34 (by decide) rfl ?_
        refine wp_iconst G dX3_fillCosts_36 ?_
        refine wp_istore (lv' := [(9, zI 1), (8, zI ((la 4 : Nat) : Int)), (5, zJ ((dgP (4 + 1) : Nat) : Int)), (0, zR 11), (1, zR 2), (2, zI (st 0)), (3, zI (st 1)), (4, zI (st 2)), (7, zI ((4 + 1 : Nat) : Int))]) G dX3_fillCosts_37 (by decide) rfl ?_
        refine wp_lv [3, 4, 5, 6, 7, 2, 8, 1, 0] rfl ?_
        suffices lp39 : ∀ (fu : Nat) (c : Nat) (Kr : Nat → Int) (v9 : Int), cl - c < fu → (v9 = ((c + 1 : Nat) : Int)) → (c ≤ cl) → (∀ j, 1 ≤ j → j ≤ c → Kr j = kst (XJ q st la lb) pt (4 + 1) j) → Wp K 14 (Mx K h (fun rr nx' l' => ∃ (C : Nat → Nat → Int), (∀ i, 1 ≤ i → i ≤ rw_ → ∀ j, 1 ≤ j → j ≤ cl → C i j = kst (XJ q st la lb) pt (i) j) ∧ rr = none ∧ nx' = nx ∧ l' = [(15, oL 2 25 (C 0)), (16, oL 2 25 (C 1)), (17, oL 2 25 (C 2)), (18, oL 2 25 (C 3)), (19, oL 2 25 (C 4)), (20, oL 2 25 (C 5)), (21, oL 2 25 (C 6)), (22, oL 2 25 (C 7)), (23, oL 2 25 (C 8)), (24, oL 2 25 (C 9)), (25, oL 2 25 (C 10)), (26, oL 2 25 (C 11)), (27, oL 2 25 (C 12))]) (0, 0)) (0, 0) 39 [(0, zR 11), (1, zR 2), (2, zI (st 0)), (3, zI (st 1)), (4, zI (st 2)), (5, zJ ((dgP (4 + 1) : Nat) : Int)), (7, zI ((4 + 1 : Nat) : Int)), (8, zI ((la 4 : Nat) : Int)), (9, zI v9)] [] (nx, h, [(15, oL 2 25 (C 0)), (16, oL 2 25 (C 1)), (17, oL 2 25 (C 2)), (18, oL 2 25 (C 3)), (19, oL 2 25 (C 4)), (20, oL 2 25 Kr), (21, oL 2 25 (C 6)), (22, oL 2 25 (C 7)), (23, oL 2 25 (C 8)), (24, oL 2 25 (C 9)), (25, oL 2 25 (C 10)), (26, oL 2 25 (C 11)), (27, oL 2 25 (C 12))]) from lp39 _ 0 (C 5) 1 (Nat.lt_succ_self _) (by omega) (by omega) (by intro j h1 h2; omega)
        intro fu
        induction fu with
        | zero => intro c Kr v9 hm; exact absurd hm (Nat.not_lt_zero _)
        | succ fu ih39 =>
          intro c Kr v9 hm39 e9 hi0 hK
          subst e9
          refine wp_iload G 8 dX3_fillCosts_39 rfl ?_
          refine wp_aload_n G 0 dX3_fillCosts_41 rfl ?_
          refine wp_get G 4 cOk3 fX3_24 dX3_fillCosts_42 h11 rfl ?_
          refine wp_icmp_gt G dX3_fillCosts_45 (by omega) (by omega) (fun kq14 => ?_) (fun kq14 => ?_)
          · skip
            refine wp_iinc (lv' := [(7, zI (((4 + 1 : Nat) : Int) + 1)), (0, zR 11), (1, zR 2), (2, zI (st 0)), (3, zI (st 1)), (4, zI (st 2)), (5, zJ ((dgP (4 + 1) : Nat) : Int)), (8, zI ((la 4 : Nat) : Int)), (9, zI ((c + 1 : Nat) : Int))]) G 6 dX3_fillCosts_147 rfl (by decide) rfl ?_
            refine wp_goto G dX3_fillCosts_150 ?_
            refine wp_lv [1, 2, 3, 4, 5, 6, 0] rfl ?_
            exact ih8 (4 + 1) (fup C (4 + 1) Kr) ((dgP (4 + 1) : Nat) : Int) (((4 + 1 : Nat) : Int) + 1) (by omega) (by rfl) (by omega) (by omega) (by exact r_put hK0 (fun j h1 h2 => hK j h1 (by omega)))
          · skip
            refine wp_ldc2 (z := 23298085122481000) G kX3_90 dX3_fillCosts_48 ?_
            refine wp_ldc2 (z := 12) G kX3_92 dX3_fillCosts_51 ?_
            refine wp_lload G 5 dX3_fillCosts_54 rfl ?_
            refine wp_lmul G dX3_fillCosts_56 ?_
            refine wp_ladd G dX3_fillCosts_57 ?_
            refine wp_lstore (lv' := [(10, zJ (23298085122481000 + (12 * ((dgP (4 + 1) : Nat) : Int)))), (0, zR 11), (1, zR 2), (2, zI (st 0)), (3, zI (st 1)), (4, zI (st 2)), (5, zJ ((dgP (4 + 1) : Nat) : Int)), (7, zI ((4 + 1 : Nat) : Int)), (8, zI ((la 4 : Nat) : Int)), (9, zI ((c + 1 : Nat) : Int))]) G dX3_fillCosts_58 (by decide) rfl ?_
            refine wp_iload G 9 dX3_fillCosts_60 rfl ?_
            refine wp_aload_n G 1 dX3_fillCosts_62 rfl ?_
            refine wp_get G 3 cOk3 fX3_21 dX3_fillCosts_63 h11 rfl ?_
            refine wp_icmp_gt G dX3_fillCosts_66 (by omega) (by omega) (fun kq15 => ?_) (fun kq15 => ?_)
            · skip
              refine wp_aload_n G 1 dX3_fillCosts_129 rfl ?_
              refine wp_get G 7 cOk3 fX3_36 dX3_fillCosts_130 h11 rfl ?_
              refine wp_iload G 7 dX3_fillCosts_133 rfl ?_
              refine wp_aald (j := 4 + 1) G (by decide) (by decide) dX3_fillCosts_135 h14 rfl (by omega) (by decide) ?_
              show Wp K 14 (Mx K h (fun rr nx' l' => ∃ (C : Nat → Nat → Int), (∀ i, 1 ≤ i → i ≤ rw_ → ∀ j, 1 ≤ j → j ≤ cl → C i j = kst (XJ q st la lb) pt (i) j) ∧ rr = none ∧ nx' = nx ∧ l' = [(15, oL 2 25 (C 0)), (16, oL 2 25 (C 1)), (17, oL 2 25 (C 2)), (18, oL 2 25 (C 3)), (19, oL 2 25 (C 4)), (20, oL 2 25 (C 5)), (21, oL 2 25 (C 6)), (22, oL 2 25 (C 7)), (23, oL 2 25 (C 8)), (24, oL 2 25 (C 9)), (25, oL 2 25 (C 10)), (26, oL 2 25 (C 11)), (27, oL 2 25 (C 12))]) (0, 0)) (0, 0) 136 [(10, zJ (23298085122481000 + (12 * ((dgP (4 + 1) : Nat) : Int)))), (0, zR 11), (1, zR 2), (2, zI (st 0)), (3, zI (st 1)), (4, zI (st 2)), (5, zJ ((dgP (4 + 1) : Nat) : Int)), (7, zI ((4 + 1 : Nat) : Int)), (8, zI ((la 4 : Nat) : Int)), (9, zI ((c + 1 : Nat) : Int))] [zR 20] (nx, h, [(15, oL 2 25 (C 0)), (16, oL 2 25 (C 1)), (17, oL 2 25 (C 2)), (18, oL 2 25 (C 3)), (19, oL 2 25 (C 4)), (20, oL 2 25 Kr), (21, oL 2 25 (C 6)), (22, oL 2 25 (C 7)), (23, oL 2 25 (C 8)), (24, oL 2 25 (C 9)), (25, oL 2 25 (C 10)), (26, oL 2 25 (C 11)), (27, oL 2 25 (C 12))])
              refine wp_iload G 9 dX3_fillCosts_136 rfl ?_
              refine wp_lload G 0 dX3_fillCosts_138 rfl ?_
              refine wp_lastE (j := c + 1) (hp2 := (nx, h, [(15, oL 2 25 (C 0)), (16, oL 2 25 (C 1)), (17, oL 2 25 (C 2)), (18, oL 2 25 (C 3)), (19, oL 2 25 (C 4)), (20, oL 2 25 (fup Kr (c + 1) (23298085122481000 + (12 * ((dgP (4 + 1) : Nat) : Int))))), (21, oL 2 25 (C 6)), (22, oL 2 25 (C 7)), (23, oL 2 25 (C 8)), (24, oL 2 25 (C 9)), (25, oL 2 25 (C 10)), (26, oL 2 25 (C 11)), (27, oL 2 25 (C 12))])) G dX3_fillCosts_140 rfl rfl (by omega) (by decide) rfl ?_
              refine wp_iinc (lv' := [(9, zI (((c + 1 : Nat) : Int) + 1)), (10, zJ (23298085122481000 + (12 * ((dgP (4 + 1) : Nat) : Int)))), (0, zR 11), (1, zR 2), (2, zI (st 0)), (3, zI (st 1)), (4, zI (st 2)), (5, zJ ((dgP (4 + 1) : Nat) : Int)), (7, zI ((4 + 1 : Nat) : Int)), (8, zI ((la 4 : Nat) : Int))]) G 9 dX3_fillCosts_141 rfl (by decide) rfl ?_
              refine wp_goto G dX3_fillCosts_144 ?_
              refine wp_lv [2, 3, 4, 5, 6, 7, 8, 9, 0] rfl ?_
              exact ih39 (c + 1) (fup Kr (c + 1) (23298085122481000 + (12 * ((dgP (4 + 1) : Nat) : Int)))) (((c + 1 : Nat) : Int) + 1) (by omega) (by omega) (by omega) (by exact f_put hK (by first | exact kst_a (by omega) | exact kst_s (by omega) (by assumption) | exact kst_n (by omega) (by assumption)))
            · skip
              refine wp_aload_n G 1 dX3_fillCosts_69 rfl ?_
              refine wp_get G 6 cOk3 fX3_31 dX3_fillCosts_70 h11 rfl ?_
              refine wp_iload G 9 dX3_fillCosts_73 rfl ?_
              refine wp_iconst G dX3_fillCosts_75 ?_
              refine wp_isub G dX3_fillCosts_76 ?_
              refine wp_iald (j := c) G dX3_fillCosts_77 h13 (by omega) (by omega) (by decide) ?_
              rw [(hB c (by omega)).1]
              have hbc := (hB c (by omega)).2
              have hmb := mis_b hO hak hbc
              refine wp_istore (lv' := [(12, zI ((lb c : Nat) : Int)), (10, zJ (23298085122481000 + (12 * ((dgP (4 + 1) : Nat) : Int)))), (0, zR 11), (1, zR 2), (2, zI (st 0)), (3, zI (st 1)), (4, zI (st 2)), (5, zJ ((dgP (4 + 1) : Nat) : Int)), (7, zI ((4 + 1 : Nat) : Int)), (8, zI ((la 4 : Nat) : Int)), (9, zI ((c + 1 : Nat) : Int))]) G dX3_fillCosts_78 (by decide) rfl ?_
              refine wp_aload_n G 3 dX3_fillCosts_80 rfl ?_
              refine wp_iload G 9 dX3_fillCosts_81 rfl ?_
              refine wp_iload G 0 dX3_fillCosts_83 rfl ?_
              refine wp_iload_n G 4 dX3_fillCosts_85 rfl ?_
              refine wp_iload_n G 5 dX3_fillCosts_86 rfl ?_
              refine wp_iload G 6 dX3_fillCosts_87 rfl ?_
              refine wp_cSE (as := [zR 2, zI ((la 4 : Nat) : Int), zI ((lb c : Nat) : Int), zI (st 0), zI (st 1), zI (st 2)]) (rest := []) (hp2 := (nx, h, [(15, oL 2 25 (C 0)), (16, oL 2 25 (C 1)), (17, oL 2 25 (C 2)), (18, oL 2 25 (C 3)), (19, oL 2 25 (C 4)), (20, oL 2 25 Kr), (21, oL 2 25 (C 6)), (22, oL 2 25 (C 7)), (23, oL 2 25 (C 8)), (24, oL 2 25 (C 9)), (25, oL 2 25 (C 10)), (26, oL 2 25 (C 11)), (27, oL 2 25 (C 12))])) G mX3_maySame lX3_94 sX3_maySame dX3_fillCosts_89 rfl rfl (Nat.le_of_ble_eq_true rfl) (rmx_ok hR (by decide) (by decide) (by decide) (by decide)) (t_X3_maySame (nx := nx) (i := (la 4)) (j := (lb c)) (dd := (st 0)) (ff := (st 1)) (tt := (st 2)) hQ hO (by omega) (by omega) (by omega) (by omega) (by omega)) rfl ?_
              refine wp_istore (lv' := [(13, zI (bt ((if 0 ≤ (q 1 (la 4) - q 1 (lb c)) then (q 1 (la 4) - q 1 (lb c)) else -(q 1 (la 4) - q 1 (lb c))) ≤ (st 0) ∧ (farZ (q 2 (la 4)) (q 3 (la 4)) (q 2 (lb c)) (q 3 (lb c))) ≤ (st 1) ∧ (if 0 ≤ (q 4 (la 4) - q 4 (lb c)) then (q 4 (la 4) - q 4 (lb c)) else -(q 4 (la 4) - q 4 (lb c))) ≤ (st 2)))), (12, zI ((lb c : Nat) : Int)), (10, zJ (23298085122481000 + (12 * ((dgP (4 + 1) : Nat) : Int)))), (0, zR 11), (1, zR 2), (2, zI (st 0)), (3, zI (st 1)), (4, zI (st 2)), (5, zJ ((dgP (4 + 1) : Nat) : Int)), (7, zI ((4 + 1 : Nat) : Int)), (8, zI ((la 4 : Nat) : Int)), (9, zI ((c + 1 : Nat) : Int))]) G dX3_fillCosts_92 (by decide) rfl ?_
              refine wp_iload G 0 dX3_fillCosts_94 rfl ?_
              refine wp_ifeq_bt G dX3_fillCosts_96 (fun kq16 => ?_) (fun kq16 => ?_)
              · skip
                refine wp_ldc2 (z := 1000000000000000000) G kX3_102 dX3_fillCosts_124 ?_
                refine wp_lstore (lv' := [(10, zJ 1000000000000000000), (13, zI (bt ((if 0 ≤ (q 1 (la 4) - q 1 (lb c)) then (q 1 (la 4) - q 1 (lb c)) else -(q 1 (la 4) - q 1 (lb c))) ≤ (st 0) ∧ (farZ (q 2 (la 4)) (q 3 (la 4)) (q 2 (lb c)) (q 3 (lb c))) ≤ (st 1) ∧ (if 0 ≤ (q 4 (la 4) - q 4 (lb c)) then (q 4 (la 4) - q 4 (lb c)) else -(q 4 (la 4) - q 4 (lb c))) ≤ (st 2)))), (12, zI ((lb c : Nat) : Int)), (0, zR 11), (1, zR 2), (2, zI (st 0)), (3, zI (st 1)), (4, zI (st 2)), (5, zJ ((dgP (4 + 1) : Nat) : Int)), (7, zI ((4 + 1 : Nat) : Int)), (8, zI ((la 4 : Nat) : Int)), (9, zI ((c + 1 : Nat) : Int))]) G dX3_fillCosts_127 (by decide) rfl ?_
                refine wp_aload_n G 3 dX3_fillCosts_129 rfl ?_
                refine wp_get G 7 cOk3 fX3_36 dX3_fillCosts_130 h11 rfl ?_
                refine wp_iload G 9 dX3_fillCosts_133 rfl ?_
                refine wp_aald (j := 4 + 1) G (by decide) (by decide) dX3_fillCosts_135 h14 rfl (by omega) (by decide) ?_
                show Wp K 14 (Mx K h (fun rr nx' l' => ∃ (C : Nat → Nat → Int), (∀ i, 1 ≤ i → i ≤ rw_ → ∀ j, 1 ≤ j → j ≤ cl → C i j = kst (XJ q st la lb) pt (i) j) ∧ rr = none ∧ nx' = nx ∧ l' = [(15, oL 2 25 (C 0)), (16, oL 2 25 (C 1)), (17, oL 2 25 (C 2)), (18, oL 2 25 (C 3)), (19, oL 2 25 (C 4)), (20, oL 2 25 (C 5)), (21, oL 2 25 (C 6)), (22, oL 2 25 (C 7)), (23, oL 2 25 (C 8)), (24, oL 2 25 (C 9)), (25, oL 2 25 (C 10)), (26, oL 2 25 (C 11)), (27, oL 2 25 (C 12))]) (0, 0)) (0, 0) 136 [(10, zJ 1000000000000000000), (13, zI (bt ((if 0 ≤ (q 1 (la 4) - q 1 (lb c)) then (q 1 (la 4) - q 1 (lb c)) else -(q 1 (la 4) - q 1 (lb c))) ≤ (st 0) ∧ (farZ (q 2 (la 4)) (q 3 (la 4)) (q 2 (lb c)) (q 3 (lb c))) ≤ (st 1) ∧ (if 0 ≤ (q 4 (la 4) - q 4 (lb c)) then (q 4 (la 4) - q 4 (lb c)) else -(q 4 (la 4) - q 4 (lb c))) ≤ (st 2)))), (12, zI ((lb c : Nat) : Int)), (0, zR 11), (1, zR 2), (2, zI (st 0)), (3, zI (st 1)), (4, zI (st 2)), (5, zJ ((dgP (4 + 1) : Nat) : Int)), (7, zI ((4 + 1 : Nat) : Int)), (8, zI ((la 4 : Nat) : Int)), (9, zI ((c + 1 : Nat) : Int))] [zR 20] (nx, h, [(15, oL 2 25 (C 0)), (16, oL 2 25 (C 1)), (17, oL 2 25 (C 2)), (18, oL 2 25 (C 3)), (19, oL 2 25 (C 4)), (20, oL 2 25 Kr), (21, oL 2 25 (C 6)), (22, oL 2 25 (C 7)), (23, oL 2 25 (C 8)), (24, oL 2 25 (C 9)), (25, oL 2 25 (C 10)), (26, oL 2 25 (C 11)), (27, oL 2 25 (C 12))])
                refine wp_iload G 11 dX3_fillCosts_136 rfl ?_
                refine wp_lload G 0 dX3_fillCosts_138 rfl ?_
                refine wp_lastE (j := c + 1) (hp2 := (nx, h, [(15, oL 2 25 (C 0)), (16, oL 2 25 (C 1)), (17, oL 2 25 (C 2)), (18, oL 2 25 (C 3)), (19, oL 2 25 (C 4)), (20, oL 2 25 (fup Kr (c + 1) 1000000000000000000)), (21, oL 2 25 (C 6)), (22, oL 2 25 (C 7)), (23, oL 2 25 (C 8)), (24, oL 2 25 (C 9)), (25, oL 2 25 (C 10)), (26, oL 2 25 (C 11)), (27, oL 2 25 (C 12))])) G dX3_fillCosts_140 rfl rfl (by omega) (by decide) rfl ?_
                refine wp_iinc (lv' := [(9, zI (((c + 1 : Nat) : Int) + 1)), (10, zJ 1000000000000000000), (13, zI (bt ((if 0 ≤ (q 1 (la 4) - q 1 (lb c)) then (q 1 (la 4) - q 1 (lb c)) else -(q 1 (la 4) - q 1 (lb c))) ≤ (st 0) ∧ (farZ (q 2 (la 4)) (q 3 (la 4)) (q 2 (lb c)) (q 3 (lb c))) ≤ (st 1) ∧ (if 0 ≤ (q 4 (la 4) - q 4 (lb c)) then (q 4 (la 4) - q 4 (lb c)) else -(q 4 (la 4) - q 4 (lb c))) ≤ (st 2)))), (12, zI ((lb c : Nat) : Int)), (0, zR 11), (1, zR 2), (2, zI (st 0)), (3, zI (st 1)), (4, zI (st 2)), (5, zJ ((dgP (4 + 1) : Nat) : Int)), (7, zI ((4 + 1 : Nat) : Int)), (8, zI ((la 4 : Nat) : Int))]) G 11 dX3_fillCosts_141 rfl (by decide) rfl ?_
                refine wp_goto G dX3_fillCosts_144 ?_
                refine wp_lv [4, 5, 6, 7, 8, 9, 10, 11, 0] rfl ?_
                exact ih39 (c + 1) (fup Kr (c + 1) 1000000000000000000) (((c + 1 : Nat) : Int) + 1) (by omega) (by omega) (by omega) (by exact f_put hK (by first | exact kst_a (by omega) | exact kst_s (by omega) (by assumption) | exact kst_n (by omega) (by assumption)))
              · skip
                refine wp_aload_n G 4 dX3_fillCosts_99 rfl ?_
                refine wp_iload G 10 dX3_fillCosts_100 rfl ?_
                refine wp_iload G 1 dX3_fillCosts_102 rfl ?_
                refine wp_cSE (as := [zR 2, zI ((la 4 : Nat) : Int), zI ((lb c : Nat) : Int)]) (rest := []) (hp2 := (nx, h, [(15, oL 2 25 (C 0)), (16, oL 2 25 (C 1)), (17, oL 2 25 (C 2)), (18, oL 2 25 (C 3)), (19, oL 2 25 (C 4)), (20, oL 2 25 Kr), (21, oL 2 25 (C 6)), (22, oL 2 25 (C 7)), (23, oL 2 25 (C 8)), (24, oL 2 25 (C 9)), (25, oL 2 25 (C 10)), (26, oL 2 25 (C 11)), (27, oL 2 25 (C 12))])) G mX3_missOf lX3_98 sX3_missOf dX3_fillCosts_104 rfl rfl (Nat.le_of_ble_eq_true rfl) (rmx_ok hR (by decide) (by decide) (by decide) (by decide)) (t_X3_missOf (nx := nx) (i := (la 4)) (j := (lb c)) hQ hO (by omega) (by omega)) rfl ?_
                refine wp_i2l G (by omega) dX3_fillCosts_107 ?_
                refine wp_ldc2 (z := 23298085122481) G kX3_86 dX3_fillCosts_108 ?_
                refine wp_lmul G dX3_fillCosts_111 ?_
                refine wp_iload G 11 dX3_fillCosts_112 rfl ?_
                refine wp_iconst G dX3_fillCosts_114 ?_
                refine wp_isub G dX3_fillCosts_115 ?_
                refine wp_i2l G (by omega) dX3_fillCosts_116 ?_
                refine wp_lload G 8 dX3_fillCosts_117 rfl ?_
                refine wp_lmul G dX3_fillCosts_119 ?_
                refine wp_ladd G dX3_fillCosts_120 ?_
                refine wp_goto G dX3_fillCosts_121 ?_
                refine wp_lstore (lv' := [(10, zJ ((((if 0 ≤ (q 1 (la 4) - q 1 (lb c)) then (q 1 (la 4) - q 1 (lb c)) else -(q 1 (la 4) - q 1 (lb c))) + (farZ (q 2 (la 4)) (q 3 (la 4)) (q 2 (lb c)) (q 3 (lb c))) + (if 0 ≤ (q 4 (la 4) - q 4 (lb c)) then (q 4 (la 4) - q 4 (lb c)) else -(q 4 (la 4) - q 4 (lb c)))) * 23298085122481) + ((((c + 1 : Nat) : Int) - 1) * ((dgP (4 + 1) : Nat) : Int)))), (13, zI (bt ((if 0 ≤ (q 1 (la 4) - q 1 (lb c)) then (q 1 (la 4) - q 1 (lb c)) else -(q 1 (la 4) - q 1 (lb c))) ≤ (st 0) ∧ (farZ (q 2 (la 4)) (q 3 (la 4)) (q 2 (lb c)) (q 3 (lb c))) ≤ (st 1) ∧ (if 0 ≤ (q 4 (la 4) - q 4 (lb c)) then (q 4 (la 4) - q 4 (lb c)) else -(q 4 (la 4) - q 4 (lb c))) ≤ (st 2)))), (12, zI ((lb c : Nat) : Int)), (0, zR 11), (1, zR 2), (2, zI (st 0)), (3, zI (st 1)), (4, zI (st 2)), (5, zJ ((dgP (4 + 1) : Nat) : Int)), (7, zI ((4 + 1 : Nat) : Int)), (8, zI ((la 4 : Nat) : Int)), (9, zI ((c + 1 : Nat) : Int))]) G dX3_fillCosts_127 (by decide) rfl ?_
                refine wp_aload_n G 3 dX3_fillCosts_129 rfl ?_
                refine wp_get G 7 cOk3 fX3_36 dX3_fillCosts_130 h11 rfl ?_
                refine wp_iload G 9 dX3_fillCosts_133 rfl ?_
                refine wp_aald (j := 4 + 1) G (by decide) (by decide) dX3_fillCosts_135 h14 rfl (by omega) (by decide) ?_
                show Wp K 14 (Mx K h (fun rr nx' l' => ∃ (C : Nat → Nat → Int), (∀ i, 1 ≤ i → i ≤ rw_ → ∀ j, 1 ≤ j → j ≤ cl → C i j = kst (XJ q st la lb) pt (i) j) ∧ rr = none ∧ nx' = nx ∧ l' = [(15, oL 2 25 (C 0)), (16, oL 2 25 (C 1)), (17, oL 2 25 (C 2)), (18, oL 2 25 (C 3)), (19, oL 2 25 (C 4)), (20, oL 2 25 (C 5)), (21, oL 2 25 (C 6)), (22, oL 2 25 (C 7)), (23, oL 2 25 (C 8)), (24, oL 2 25 (C 9)), (25, oL 2 25 (C 10)), (26, oL 2 25 (C 11)), (27, oL 2 25 (C 12))]) (0, 0)) (0, 0) 136 [(10, zJ ((((if 0 ≤ (q 1 (la 4) - q 1 (lb c)) then (q 1 (la 4) - q 1 (lb c)) else -(q 1 (la 4) - q 1 (lb c))) + (farZ (q 2 (la 4)) (q 3 (la 4)) (q 2 (lb c)) (q 3 (lb c))) + (if 0 ≤ (q 4 (la 4) - q 4 (lb c)) then (q 4 (la 4) - q 4 (lb c)) else -(q 4 (la 4) - q 4 (lb c)))) * 23298085122481) + ((((c + 1 : Nat) : Int) - 1) * ((dgP (4 + 1) : Nat) : Int)))), (13, zI (bt ((if 0 ≤ (q 1 (la 4) - q 1 (lb c)) then (q 1 (la 4) - q 1 (lb c)) else -(q 1 (la 4) - q 1 (lb c))) ≤ (st 0) ∧ (farZ (q 2 (la 4)) (q 3 (la 4)) (q 2 (lb c)) (q 3 (lb c))) ≤ (st 1) ∧ (if 0 ≤ (q 4 (la 4) - q 4 (lb c)) then (q 4 (la 4) - q 4 (lb c)) else -(q 4 (la 4) - q 4 (lb c))) ≤ (st 2)))), (12, zI ((lb c : Nat) : Int)), (0, zR 11), (1, zR 2), (2, zI (st 0)), (3, zI (st 1)), (4, zI (st 2)), (5, zJ ((dgP (4 + 1) : Nat) : Int)), (7, zI ((4 + 1 : Nat) : Int)), (8, zI ((la 4 : Nat) : Int)), (9, zI ((c + 1 : Nat) : Int))] [zR 20] (nx, h, [(15, oL 2 25 (C 0)), (16, oL 2 25 (C 1)), (17, oL 2 25 (C 2)), (18, oL 2 25 (C 3)), (19, oL 2 25 (C 4)), (20, oL 2 25 Kr), (21, oL 2 25 (C 6)), (22, oL 2 25 (C 7)), (23, oL 2 25 (C 8)), (24, oL 2 25 (C 9)), (25, oL 2 25 (C 10)), (26, oL 2 25 (C 11)), (27, oL 2 25 (C 12))])
                refine wp_iload G 11 dX3_fillCosts_136 rfl ?_
                refine wp_lload G 0 dX3_fillCosts_138 rfl ?_
                refine wp_lastE (j := c + 1) (hp2 := (nx, h, [(15, oL 2 25 (C 0)), (16, oL 2 25 (C 1)), (17, oL 2 25 (C 2)), (18, oL 2 25 (C 3)), (19, oL 2 25 (C 4)), (20, oL 2 25 (fup Kr (c + 1) ((((if 0 ≤ (q 1 (la 4) - q 1 (lb c)) then (q 1 (la 4) - q 1 (lb c)) else -(q 1 (la 4) - q 1 (lb c))) + (farZ (q 2 (la 4)) (q 3 (la 4)) (q 2 (lb c)) (q 3 (lb c))) + (if 0 ≤ (q 4 (la 4) - q 4 (lb c)) then (q 4 (la 4) - q 4 (lb c)) else -(q 4 (la 4) - q 4 (lb c)))) * 23298085122481) + ((((c + 1 : Nat) : Int) - 1) * ((dgP (4 + 1) : Nat) : Int))))), (21, oL 2 25 (C 6)), (22, oL 2 25 (C 7)), (23, oL 2 25 (C 8)), (24, oL 2 25 (C 9)), (25, oL 2 25 (C 10)), (26, oL 2 25 (C 11)), (27, oL 2 25 (C 12))])) G dX3_fillCosts_140 rfl rfl (by omega) (by decide) rfl ?_
                refine wp_iinc (lv' := [(9, zI (((c + 1 : Nat) : Int) + 1)), (10, zJ ((((if 0 ≤ (q 1 (la 4) - q 1 (lb c)) then (q 1 (la 4) - q 1 (lb c)) else -(q 1 (la 4) - q 1 (lb c))) + (farZ (q 2 (la 4)) (q 3 (la 4)) (q 2 (lb c)) (q 3 (lb c))) + (if 0 ≤ (q 4 (la 4) - q 4 (lb c)) then (q 4 (la 4) - q 4 (lb c)) else -(q 4 (la 4) - q 4 (lb c)))) * 23298085122481) + ((((c + 1 : Nat) : Int) - 1) * ((dgP (4 + 1) : Nat) : Int)))), (13, zI (bt ((if 0 ≤ (q 1 (la 4) - q 1 (lb c)) then (q 1 (la 4) - q 1 (lb c)) else -(q 1 (la 4) - q 1 (lb c))) ≤ (st 0) ∧ (farZ (q 2 (la 4)) (q 3 (la 4)) (q 2 (lb c)) (q 3 (lb c))) ≤ (st 1) ∧ (if 0 ≤ (q 4 (la 4) - q 4 (lb c)) then (q 4 (la 4) - q 4 (lb c)) else -(q 4 (la 4) - q 4 (lb c))) ≤ (st 2)))), (12, zI ((lb c : Nat) : Int)), (0, zR 11), (1, zR 2), (2, zI (st 0)), (3, zI (st 1)), (4, zI (st 2)), (5, zJ ((dgP (4 + 1) : Nat) : Int)), (7, zI ((4 + 1 : Nat) : Int)), (8, zI ((la 4 : Nat) : Int))]) G 11 dX3_fillCosts_141 rfl (by decide) rfl ?_
                refine wp_goto G dX3_fillCosts_144 ?_
                refine wp_lv [4, 5, 6, 7, 8, 9, 10, 11, 0] rfl ?_
                exact ih39 (c + 1) (fup Kr (c + 1) ((((if 0 ≤ (q 1 (la 4) - q 1 (lb c)) then (q 1 (la 4) - q 1 (lb c)) else -(q 1 (la 4) - q 1 (lb c))) + (farZ (q 2 (la 4)) (q 3 (la 4)) (q 2 (lb c)) (q 3 (lb c))) + (if 0 ≤ (q 4 (la 4) - q 4 (lb c)) then (q 4 (la 4) - q 4 (lb c)) else -(q 4 (la 4) - q 4 (lb c)))) * 23298085122481) + ((((c + 1 : Nat) : Int) - 1) * ((dgP (4 + 1) : Nat) : Int)))) (((c + 1 : Nat) : Int) + 1) (by omega) (by omega) (by omega) (by exact f_put hK (by first | exact kst_a (by omega) | exact kst_s (by omega) (by assumption) | exact kst_n (by omega) (by assumption)))
      · skip
        refine wp_lload G 5 dX3_fillCosts_17 rfl ?_
        refine wp_ldc2 (z := 13) G kX3_88 dX3_fillCosts_19 ?_
        refine wp_ldiv G (by omega) (by omega) (by omega) (by omega) dX3_fillCosts_22 ?_
        rw [show ((((dgP 5 : Nat) : Int) / 13) : Int) = ((dgP (5 + 1) : Nat) : Int) from dg_s (by omega)]
        refine wp_lstore (lv' := [(5, zJ ((dgP (5 + 1) : Nat) : Int)), (0, zR 11), (1, zR 2), (2, zI (st 0)), (3, zI (st 1)), (4, zI (st 2)), (7, zI ((5 + 1 : Nat) : Int))]) G dX3_fillCosts_23 (by decide) rfl ?_
        refine wp_aload_n G 1 dX3_fillCosts_25 rfl ?_
        refine wp_get G 5 cOk3 fX3_27 dX3_fillCosts_26 h11 rfl ?_
        refine wp_iload G 6 dX3_fillCosts_29 rfl ?_
        refine wp_iconst G dX3_fillCosts_31 ?_
        refine wp_isub G dX3_fillCosts_32 ?_
        refine wp_iald (j := 5) G dX3_fillCosts_33 h12 (by omega) (by omega) (by decide) ?_
        rw [(hA 5 (by omega)).1]
        have hak := (hA 5 (by omega)).2
        refine wp_istore (lv' := [(8, zI ((la 5 : Nat) : Int)), (5, zJ ((dgP (5 + 1) : Nat) : Int)), (0, zR 11), (1, zR 2), (2, zI (st 0)), (3, zI (st 1)), (4, zI (st 2)), (7, zI ((5 + 1 : Nat) : Int))]) G dX3_fillCosts_34 (by decide) rfl ?_
        refine wp_iconst G dX3_fillCosts_36 ?_
        refine wp_istore (lv' := [(9, zI 1), (8, zI ((la 5 : Nat) : Int)), (5, zJ ((dgP (5 + 1) : Nat) : Int)), (0, zR 11), (1, zR 2), (2, zI (st 0)), (3, zI (st 1)), (4, zI (st 2)), (7, zI ((5 + 1 : Nat) : Int))]) G dX3_fillCosts_37 (by decide) rfl ?_
        refine wp_lv [3, 4, 5, 6, 7, 2, 8, 1, 0] rfl ?_
        suffices lp39 : ∀ (fu : Nat) (c : Nat) (Kr : Nat → Int) (v9 : Int), cl - c < fu → (v9 = ((c + 1 : Nat) : Int)) → (c ≤ cl) → (∀ j, 1 ≤ j → j ≤ c → Kr j = kst (XJ q st la lb) pt (5 + 1) j) → Wp K 14 (Mx K h (fun rr nx' l' => ∃ (C : Nat → Nat → Int), (∀ i, 1 ≤ i → i ≤ rw_ → ∀ j, 1 ≤ j → j ≤ cl → C i j = kst (XJ q st la lb) pt (i) j) ∧ rr = none ∧ nx' = nx ∧ l' = [(15, oL 2 25 (C 0)), (16, oL 2 25 (C 1)), (17, oL 2 25 (C 2)), (18, oL 2 25 (C 3)), (19, oL 2 25 (C 4)), (20, oL 2 25 (C 5)), (21, oL 2 25 (C 6)), (22, oL 2 25 (C 7)), (23, oL 2 25 (C 8)), (24, oL 2 25 (C 9)), (25, oL 2 25 (C 10)), (26, oL 2 25 (C 11)), (27, oL 2 25 (C 12))]) (0, 0)) (0, 0) 39 [(0, zR 11), (1, zR 2), (2, zI (st 0)), (3, zI (st 1)), (4, zI (st 2)), (5, zJ ((dgP (5 + 1) : Nat) : Int)), (7, zI ((5 + 1 : Nat) : Int)), (8, zI ((la 5 : Nat) : Int)), (9, zI v9)] [] (nx, h, [(15, oL 2 25 (C 0)), (16, oL 2 25 (C 1)), (17, oL 2 25 (C 2)), (18, oL 2 25 (C 3)), (19, oL 2 25 (C 4)), (20, oL 2 25 (C 5)), (21, oL 2 25 Kr), (22, oL 2 25 (C 7)), (23, oL 2 25 (C 8)), (24, oL 2 25 (C 9)), (25, oL 2 25 (C 10)), (26, oL 2 25 (C 11)), (27, oL 2 25 (C 12))]) from lp39 _ 0 (C 6) 1 (Nat.lt_succ_self _) (by omega) (by omega) (by intro j h1 h2; omega)
        intro fu
        induction fu with
        | zero => intro c Kr v9 hm; exact absurd hm (Nat.not_lt_zero _)
        | succ fu ih39 =>
          intro c Kr v9 hm39 e9 hi0 hK
          subst e9
          refine wp_iload G 8 dX3_fillCosts_39 rfl ?_
          refine wp_aload_n G 0 dX3_fillCosts_41 rfl ?_
          refine wp_get G 4 cOk3 fX3_24 dX3_fillCosts_42 h11 rfl ?_
          refine wp_icmp_gt G dX3_fillCosts_45 (by omega) (by omega) (fun kq17 => ?_) (fun kq17 => ?_)
          · skip
            refine wp_iinc (lv' := [(7, zI (((5 + 1 : Nat) : Int) + 1)), (0, zR 11), (1, zR 2), (2, zI (st 0)), (3, zI (st 1)), (4, zI (st 2)), (5, zJ ((dgP (5 + 1) : Nat) : Int)), (8, zI ((la 5 : Nat) : Int)), (9, zI ((c + 1 : Nat) : Int))]) G 6 dX3_fillCosts_147 rfl (by decide) rfl ?_
            refine wp_goto G dX3_fillCosts_150 ?_
            refine wp_lv [1, 2, 3, 4, 5, 6, 0] rfl ?_
            exact ih8 (5 + 1) (fup C (5 + 1) Kr) ((dgP (5 + 1) : Nat) : Int) (((5 + 1 : Nat) : Int) + 1) (by omega) (by rfl) (by omega) (by omega) (by exact r_put hK0 (fun j h1 h2 => hK j h1 (by omega)))
          · skip
            refine wp_ldc2 (z := 23298085122481000) G kX3_90 dX3_fillCosts_48 ?_
            refine wp_ldc2 (z := 12) G kX3_92 dX3_fillCosts_51 ?_
            refine wp_lload G 5 dX3_fillCosts_54 rfl ?_
            refine wp_lmul G dX3_fillCosts_56 ?_
            refine wp_ladd G dX3_fillCosts_57 ?_
            refine wp_lstore (lv' := [(10, zJ (23298085122481000 + (12 * ((dgP (5 + 1) : Nat) : Int)))), (0, zR 11), (1, zR 2), (2, zI (st 0)), (3, zI (st 1)), (4, zI (st 2)), (5, zJ ((dgP (5 + 1) : Nat) : Int)), (7, zI ((5 + 1 : Nat) : Int)), (8, zI ((la 5 : Nat) : Int)), (9, zI ((c + 1 : Nat) : Int))]) G dX3_fillCosts_58 (by decide) rfl ?_
            refine wp_iload G 9 dX3_fillCosts_60 rfl ?_
            refine wp_aload_n G 1 dX3_fillCosts_62 rfl ?_
            refine wp_get G 3 cOk3 fX3_21 dX3_fillCosts_63 h11 rfl ?_
            refine wp_icmp_gt G dX3_fillCosts_66 (by omega) (by omega) (fun kq18 => ?_) (fun kq18 => ?_)
            · skip
              refine wp_aload_n G 1 dX3_fillCosts_129 rfl ?_
              refine wp_get G 7 cOk3 fX3_36 dX3_fillCosts_130 h11 rfl ?_
              refine wp_iload G 7 dX3_fillCosts_133 rfl ?_
              refine wp_aald (j := 5 + 1) G (by decide) (by decide) dX3_fillCosts_135 h14 rfl (by omega) (by decide) ?_
              show Wp K 14 (Mx K h (fun rr nx' l' => ∃ (C : Nat → Nat → Int), (∀ i, 1 ≤ i → i ≤ rw_ → ∀ j, 1 ≤ j → j ≤ cl → C i j = kst (XJ q st la lb) pt (i) j) ∧ rr = none ∧ nx' = nx ∧ l' = [(15, oL 2 25 (C 0)), (16, oL 2 25 (C 1)), (17, oL 2 25 (C 2)), (18, oL 2 25 (C 3)), (19, oL 2 25 (C 4)), (20, oL 2 25 (C 5)), (21, oL 2 25 (C 6)), (22, oL 2 25 (C 7)), (23, oL 2 25 (C 8)), (24, oL 2 25 (C 9)), (25, oL 2 25 (C 10)), (26, oL 2 25 (C 11)), (27, oL 2 25 (C 12))]) (0, 0)) (0, 0) 136 [(10, zJ (23298085122481000 + (12 * ((dgP (5 + 1) : Nat) : Int)))), (0, zR 11), (1, zR 2), (2, zI (st 0)), (3, zI (st 1)), (4, zI (st 2)), (5, zJ ((dgP (5 + 1) : Nat) : Int)), (7, zI ((5 + 1 : Nat) : Int)), (8, zI ((la 5 : Nat) : Int)), (9, zI ((c + 1 : Nat) : Int))] [zR 21] (nx, h, [(15, oL 2 25 (C 0)), (16, oL 2 25 (C 1)), (17, oL 2 25 (C 2)), (18, oL 2 25 (C 3)), (19, oL 2 25 (C 4)), (20, oL 2 25 (C 5)), (21, oL 2 25 Kr), (22, oL 2 25 (C 7)), (23, oL 2 25 (C 8)), (24, oL 2 25 (C 9)), (25, oL 2 25 (C 10)), (26, oL 2 25 (C 11)), (27, oL 2 25 (C 12))])
              refine wp_iload G 9 dX3_fillCosts_136 rfl ?_
              refine wp_lload G 0 dX3_fillCosts_138 rfl ?_
              refine wp_lastE (j := c + 1) (hp2 := (nx, h, [(15, oL 2 25 (C 0)), (16, oL 2 25 (C 1)), (17, oL 2 25 (C 2)), (18, oL 2 25 (C 3)), (19, oL 2 25 (C 4)), (20, oL 2 25 (C 5)), (21, oL 2 25 (fup Kr (c + 1) (23298085122481000 + (12 * ((dgP (5 + 1) : Nat) : Int))))), (22, oL 2 25 (C 7)), (23, oL 2 25 (C 8)), (24, oL 2 25 (C 9)), (25, oL 2 25 (C 10)), (26, oL 2 25 (C 11)), (27, oL 2 25 (C 12))])) G dX3_fillCosts_140 rfl rfl (by omega) (by decide) rfl ?_
              refine wp_iinc (lv' := [(9, zI (((c + 1 : Nat) : Int) + 1)), (10, zJ (23298085122481000 + (12 * ((dgP (5 + 1) : Nat) : Int)))), (0, zR 11), (1, zR 2), (2, zI (st 0)), (3, zI (st 1)), (4, zI (st 2)), (5, zJ ((dgP (5 + 1) : Nat) : Int)), (7, zI ((5 + 1 : Nat) : Int)), (8, zI ((la 5 : Nat) : Int))]) G 9 dX3_fillCosts_141 rfl (by decide) rfl ?_
              refine wp_goto G dX3_fillCosts_144 ?_
              refine wp_lv [2, 3, 4, 5, 6, 7, 8, 9, 0] rfl ?_
              exact ih39 (c + 1) (fup Kr (c + 1) (23298085122481000 + (12 * ((dgP (5 + 1) : Nat) : Int)))) (((c + 1 : Nat) : Int) + 1) (by omega) (by omega) (by omega) (by exact f_put hK (by first | exact kst_a (by omega) | exact kst_s (by omega) (by assumption) | exact kst_n (by omega) (by assumption)))
            · skip
              refine wp_aload_n G 1 dX3_fillCosts_69 rfl ?_
              refine wp_get G 6 cOk3 fX3_31 dX3_fillCosts_70 h11 rfl ?_
              refine wp_iload G 9 dX3_fillCosts_73 rfl ?_
              refine wp_iconst G dX3_fillCosts_75 ?_
              refine wp_isub G dX3_fillCosts_76 ?_
              refine wp_iald (j := c) G dX3_fillCosts_77 h13 (by omega) (by omega) (by decide) ?_
              rw [(hB c (by omega)).1]
              have hbc := (hB c (by omega)).2
              have hmb := mis_b hO hak hbc
              refine wp_istore (lv' := [(12, zI ((lb c : Nat) : Int)), (10, zJ (23298085122481000 + (12 * ((dgP (5 + 1) : Nat) : Int)))), (0, zR 11), (1, zR 2), (2, zI (st 0)), (3, zI (st 1)), (4, zI (st 2)), (5, zJ ((dgP (5 + 1) : Nat) : Int)), (7, zI ((5 + 1 : Nat) : Int)), (8, zI ((la 5 : Nat) : Int)), (9, zI ((c + 1 : Nat) : Int))]) G dX3_fillCosts_78 (by decide) rfl ?_
              refine wp_aload_n G 3 dX3_fillCosts_80 rfl ?_
              refine wp_iload G 9 dX3_fillCosts_81 rfl ?_
              refine wp_iload G 0 dX3_fillCosts_83 rfl ?_
              refine wp_iload_n G 4 dX3_fillCosts_85 rfl ?_
              refine wp_iload_n G 5 dX3_fillCosts_86 rfl ?_
              refine wp_iload G 6 dX3_fillCosts_87 rfl ?_
              refine wp_cSE (as := [zR 2, zI ((la 5 : Nat) : Int), zI ((lb c : Nat) : Int), zI (st 0), zI (st 1), zI (st 2)]) (rest := []) (hp2 := (nx, h, [(15, oL 2 25 (C 0)), (16, oL 2 25 (C 1)), (17, oL 2 25 (C 2)), (18, oL 2 25 (C 3)), (19, oL 2 25 (C 4)), (20, oL 2 25 (C 5)), (21, oL 2 25 Kr), (22, oL 2 25 (C 7)), (23, oL 2 25 (C 8)), (24, oL 2 25 (C 9)), (25, oL 2 25 (C 10)), (26, oL 2 25 (C 11)), (27, oL 2 25 (C 12))])) G mX3_maySame lX3_94 sX3_maySame dX3_fillCosts_89 rfl rfl (Nat.le_of_ble_eq_true rfl) (rmx_ok hR (by decide) (by decide) (by decide) (by decide)) (t_X3_maySame (nx := nx) (i := (la 5)) (j := (lb c)) (dd := (st 0)) (ff := (st 1)) (tt := (st 2)) hQ hO (by omega) (by omega) (by omega) (by omega) (by omega)) rfl ?_
              refine wp_istore (lv' := [(13, zI (bt ((if 0 ≤ (q 1 (la 5) - q 1 (lb c)) then (q 1 (la 5) - q 1 (lb c)) else -(q 1 (la 5) - q 1 (lb c))) ≤ (st 0) ∧ (farZ (q 2 (la 5)) (q 3 (la 5)) (q 2 (lb c)) (q 3 (lb c))) ≤ (st 1) ∧ (if 0 ≤ (q 4 (la 5) - q 4 (lb c)) then (q 4 (la 5) - q 4 (lb c)) else -(q 4 (la 5) - q 4 (lb c))) ≤ (st 2)))), (12, zI ((lb c : Nat) : Int)), (10, zJ (23298085122481000 + (12 * ((dgP (5 + 1) : Nat) : Int)))), (0, zR 11), (1, zR 2), (2, zI (st 0)), (3, zI (st 1)), (4, zI (st 2)), (5, zJ ((dgP (5 + 1) : Nat) : Int)), (7, zI ((5 + 1 : Nat) : Int)), (8, zI ((la 5 : Nat) : Int)), (9, zI ((c + 1 : Nat) : Int))]) G dX3_fillCosts_92 (by decide) rfl ?_
              refine wp_iload G 0 dX3_fillCosts_94 rfl ?_
              refine wp_ifeq_bt G dX3_fillCosts_96 (fun kq19 => ?_) (fun kq19 => ?_)
              · skip
                refine wp_ldc2 (z := 1000000000000000000) G kX3_102 dX3_fillCosts_124 ?_
                refine wp_lstore (lv' := [(10, zJ 1000000000000000000), (13, zI (bt ((if 0 ≤ (q 1 (la 5) - q 1 (lb c)) then (q 1 (la 5) - q 1 (lb c)) else -(q 1 (la 5) - q 1 (lb c))) ≤ (st 0) ∧ (farZ (q 2 (la 5)) (q 3 (la 5)) (q 2 (lb c)) (q 3 (lb c))) ≤ (st 1) ∧ (if 0 ≤ (q 4 (la 5) - q 4 (lb c)) then (q 4 (la 5) - q 4 (lb c)) else -(q 4 (la 5) - q 4 (lb c))) ≤ (st 2)))), (12, zI ((lb c : Nat) : Int)), (0, zR 11), (1, zR 2), (2, zI (st 0)), (3, zI (st 1)), (4, zI (st 2)), (5, zJ ((dgP (5 + 1) : Nat) : Int)), (7, zI ((5 + 1 : Nat) : Int)), (8, zI ((la 5 : Nat) : Int)), (9, zI ((c + 1 : Nat) : Int))]) G dX3_fillCosts_127 (by decide) rfl ?_
                refine wp_aload_n G 3 dX3_fillCosts_129 rfl ?_
                refine wp_get G 7 cOk3 fX3_36 dX3_fillCosts_130 h11 rfl ?_
                refine wp_iload G 9 dX3_fillCosts_133 rfl ?_
                refine wp_aald (j := 5 + 1) G (by decide) (by decide) dX3_fillCosts_135 h14 rfl (by omega) (by decide) ?_
                show Wp K 14 (Mx K h (fun rr nx' l' => ∃ (C : Nat → Nat → Int), (∀ i, 1 ≤ i → i ≤ rw_ → ∀ j, 1 ≤ j → j ≤ cl → C i j = kst (XJ q st la lb) pt (i) j) ∧ rr = none ∧ nx' = nx ∧ l' = [(15, oL 2 25 (C 0)), (16, oL 2 25 (C 1)), (17, oL 2 25 (C 2)), (18, oL 2 25 (C 3)), (19, oL 2 25 (C 4)), (20, oL 2 25 (C 5)), (21, oL 2 25 (C 6)), (22, oL 2 25 (C 7)), (23, oL 2 25 (C 8)), (24, oL 2 25 (C 9)), (25, oL 2 25 (C 10)), (26, oL 2 25 (C 11)), (27, oL 2 25 (C 12))]) (0, 0)) (0, 0) 136 [(10, zJ 1000000000000000000), (13, zI (bt ((if 0 ≤ (q 1 (la 5) - q 1 (lb c)) then (q 1 (la 5) - q 1 (lb c)) else -(q 1 (la 5) - q 1 (lb c))) ≤ (st 0) ∧ (farZ (q 2 (la 5)) (q 3 (la 5)) (q 2 (lb c)) (q 3 (lb c))) ≤ (st 1) ∧ (if 0 ≤ (q 4 (la 5) - q 4 (lb c)) then (q 4 (la 5) - q 4 (lb c)) else -(q 4 (la 5) - q 4 (lb c))) ≤ (st 2)))), (12, zI ((lb c : Nat) : Int)), (0, zR 11), (1, zR 2), (2, zI (st 0)), (3, zI (st 1)), (4, zI (st 2)), (5, zJ ((dgP (5 + 1) : Nat) : Int)), (7, zI ((5 + 1 : Nat) : Int)), (8, zI ((la 5 : Nat) : Int)), (9, zI ((c + 1 : Nat) : Int))] [zR 21] (nx, h, [(15, oL 2 25 (C 0)), (16, oL 2 25 (C 1)), (17, oL 2 25 (C 2)), (18, oL 2 25 (C 3)), (19, oL 2 25 (C 4)), (20, oL 2 25 (C 5)), (21, oL 2 25 Kr), (22, oL 2 25 (C 7)), (23, oL 2 25 (C 8)), (24, oL 2 25 (C 9)), (25, oL 2 25 (C 10)), (26, oL 2 25 (C 11)), (27, oL 2 25 (C 12))])
                refine wp_iload G 11 dX3_fillCosts_136 rfl ?_
                refine wp_lload G 0 dX3_fillCosts_138 rfl ?_
                refine wp_lastE (j := c + 1) (hp2 := (nx, h, [(15, oL 2 25 (C 0)), (16, oL 2 25 (C 1)), (17, oL 2 25 (C 2)), (18, oL 2 25 (C 3)), (19, oL 2 25 (C 4)), (20, oL 2 25 (C 5)), (21, oL 2 25 (fup Kr (c + 1) 1000000000000000000)), (22, oL 2 25 (C 7)), (23, oL 2 25 (C 8)), (24, oL 2 25 (C 9)), (25, oL 2 25 (C 10)), (26, oL 2 25 (C 11)), (27, oL 2 25 (C 12))])) G dX3_fillCosts_140 rfl rfl (by omega) (by decide) rfl ?_
                refine wp_iinc (lv' := [(9, zI (((c + 1 : Nat) : Int) + 1)), (10, zJ 1000000000000000000), (13, zI (bt ((if 0 ≤ (q 1 (la 5) - q 1 (lb c)) then (q 1 (la 5) - q 1 (lb c)) else -(q 1 (la 5) - q 1 (lb c))) ≤ (st 0) ∧ (farZ (q 2 (la 5)) (q 3 (la 5)) (q 2 (lb c)) (q 3 (lb c))) ≤ (st 1) ∧ (if 0 ≤ (q 4 (la 5) - q 4 (lb c)) then (q 4 (la 5) - q 4 (lb c)) else -(q 4 (la 5) - q 4 (lb c))) ≤ (st 2)))), (12, zI ((lb c : Nat) : Int)), (0, zR 11), (1, zR 2), (2, zI (st 0)), (3, zI (st 1)), (4, zI (st 2)), (5, zJ ((dgP (5 + 1) : Nat) : Int)), (7, zI ((5 + 1 : Nat) : Int)), (8, zI ((la 5 : Nat) : Int))]) G 11 dX3_fillCosts_141 rfl (by decide) rfl ?_
                refine wp_goto G dX3_fillCosts_144 ?_
                refine wp_lv [4, 5, 6, 7, 8, 9, 10, 11, 0] rfl ?_
                exact ih39 (c + 1) (fup Kr (c + 1) 1000000000000000000) (((c + 1 : Nat) : Int) + 1) (by omega) (by omega) (by omega) (by exact f_put hK (by first | exact kst_a (by omega) | exact kst_s (by omega) (by assumption) | exact kst_n (by omega) (by assumption)))
              · skip
                refine wp_aload_n G 4 dX3_fillCosts_99 rfl ?_
                refine wp_iload G 10 dX3_fillCosts_100 rfl ?_
                refine wp_iload G 1 dX3_fillCosts_102 rfl ?_
                refine wp_cSE (as := [zR 2, zI ((la 5 : Nat) : Int), zI ((lb c : Nat) : Int)]) (rest := []) (hp2 := (nx, h, [(15, oL 2 25 (C 0)), (16, oL 2 25 (C 1)), (17, oL 2 25 (C 2)), (18, oL 2 25 (C 3)), (19, oL 2 25 (C 4)), (20, oL 2 25 (C 5)), (21, oL 2 25 Kr), (22, oL 2 25 (C 7)), (23, oL 2 25 (C 8)), (24, oL 2 25 (C 9)), (25, oL 2 25 (C 10)), (26, oL 2 25 (C 11)), (27, oL 2 25 (C 12))])) G mX3_missOf lX3_98 sX3_missOf dX3_fillCosts_104 rfl rfl (Nat.le_of_ble_eq_true rfl) (rmx_ok hR (by decide) (by decide) (by decide) (by decide)) (t_X3_missOf (nx := nx) (i := (la 5)) (j := (lb c)) hQ hO (by omega) (by omega)) rfl ?_
                refine wp_i2l G (by omega) dX3_fillCosts_107 ?_
                refine wp_ldc2 (z := 23298085122481) G kX3_86 dX3_fillCosts_108 ?_
                refine wp_lmul G dX3_fillCosts_111 ?_
                refine wp_iload G 11 dX3_fillCosts_112 rfl ?_
                refine wp_iconst G dX3_fillCosts_114 ?_
                refine wp_isub G dX3_fillCosts_115 ?_
                refine wp_i2l G (by omega) dX3_fillCosts_116 ?_
                refine wp_lload G 8 dX3_fillCosts_117 rfl ?_
                refine wp_lmul G dX3_fillCosts_119 ?_
                refine wp_ladd G dX3_fillCosts_120 ?_
                refine wp_goto G dX3_fillCosts_121 ?_
                refine wp_lstore (lv' := [(10, zJ ((((if 0 ≤ (q 1 (la 5) - q 1 (lb c)) then (q 1 (la 5) - q 1 (lb c)) else -(q 1 (la 5) - q 1 (lb c))) + (farZ (q 2 (la 5)) (q 3 (la 5)) (q 2 (lb c)) (q 3 (lb c))) + (if 0 ≤ (q 4 (la 5) - q 4 (lb c)) then (q 4 (la 5) - q 4 (lb c)) else -(q 4 (la 5) - q 4 (lb c)))) * 23298085122481) + ((((c + 1 : Nat) : Int) - 1) * ((dgP (5 + 1) : Nat) : Int)))), (13, zI (bt ((if 0 ≤ (q 1 (la 5) - q 1 (lb c)) then (q 1 (la 5) - q 1 (lb c)) else -(q 1 (la 5) - q 1 (lb c))) ≤ (st 0) ∧ (farZ (q 2 (la 5)) (q 3 (la 5)) (q 2 (lb c)) (q 3 (lb c))) ≤ (st 1) ∧ (if 0 ≤ (q 4 (la 5) - q 4 (lb c)) then (q 4 (la 5) - q 4 (lb c)) else -(q 4 (la 5) - q 4 (lb c))) ≤ (st 2)))), (12, zI ((lb c : Nat) : Int)), (0, zR 11), (1, zR 2), (2, zI (st 0)), (3, zI (st 1)), (4, zI (st 2)), (5, zJ ((dgP (5 + 1) : Nat) : Int)), (7, zI ((5 + 1 : Nat) : Int)), (8, zI ((la 5 : Nat) : Int)), (9, zI ((c + 1 : Nat) : Int))]) G dX3_fillCosts_127 (by decide) rfl ?_
                refine wp_aload_n G 3 dX3_fillCosts_129 rfl ?_
                refine wp_get G 7 cOk3 fX3_36 dX3_fillCosts_130 h11 rfl ?_
                refine wp_iload G 9 dX3_fillCosts_133 rfl ?_
                refine wp_aald (j := 5 + 1) G (by decide) (by decide) dX3_fillCosts_135 h14 rfl (by omega) (by decide) ?_
                show Wp K 14 (Mx K h (fun rr nx' l' => ∃ (C : Nat → Nat → Int), (∀ i, 1 ≤ i → i ≤ rw_ → ∀ j, 1 ≤ j → j ≤ cl → C i j = kst (XJ q st la lb) pt (i) j) ∧ rr = none ∧ nx' = nx ∧ l' = [(15, oL 2 25 (C 0)), (16, oL 2 25 (C 1)), (17, oL 2 25 (C 2)), (18, oL 2 25 (C 3)), (19, oL 2 25 (C 4)), (20, oL 2 25 (C 5)), (21, oL 2 25 (C 6)), (22, oL 2 25 (C 7)), (23, oL 2 25 (C 8)), (24, oL 2 25 (C 9)), (25, oL 2 25 (C 10)), (26, oL 2 25 (C 11)), (27, oL 2 25 (C 12))]) (0, 0)) (0, 0) 136 [(10, zJ ((((if 0 ≤ (q 1 (la 5) - q 1 (lb c)) then (q 1 (la 5) - q 1 (lb c)) else -(q 1 (la 5) - q 1 (lb c))) + (farZ (q 2 (la 5)) (q 3 (la 5)) (q 2 (lb c)) (q 3 (lb c))) + (if 0 ≤ (q 4 (la 5) - q 4 (lb c)) then (q 4 (la 5) - q 4 (lb c)) else -(q 4 (la 5) - q 4 (lb c)))) * 23298085122481) + ((((c + 1 : Nat) : Int) - 1) * ((dgP (5 + 1) : Nat) : Int)))), (13, zI (bt ((if 0 ≤ (q 1 (la 5) - q 1 (lb c)) then (q 1 (la 5) - q 1 (lb c)) else -(q 1 (la 5) - q 1 (lb c))) ≤ (st 0) ∧ (farZ (q 2 (la 5)) (q 3 (la 5)) (q 2 (lb c)) (q 3 (lb c))) ≤ (st 1) ∧ (if 0 ≤ (q 4 (la 5) - q 4 (lb c)) then (q 4 (la 5) - q 4 (lb c)) else -(q 4 (la 5) - q 4 (lb c))) ≤ (st 2)))), (12, zI ((lb c : Nat) : Int)), (0, zR 11), (1, zR 2), (2, zI (st 0)), (3, zI (st 1)), (4, zI (st 2)), (5, zJ ((dgP (5 + 1) : Nat) : Int)), (7, zI ((5 + 1 : Nat) : Int)), (8, zI ((la 5 : Nat) : Int)), (9, zI ((c + 1 : Nat) : Int))] [zR 21] (nx, h, [(15, oL 2 25 (C 0)), (16, oL 2 25 (C 1)), (17, oL 2 25 (C 2)), (18, oL 2 25 (C 3)), (19, oL 2 25 (C 4)), (20, oL 2 25 (C 5)), (21, oL 2 25 Kr), (22, oL 2 25 (C 7)), (23, oL 2 25 (C 8)), (24, oL 2 25 (C 9)), (25, oL 2 25 (C 10)), (26, oL 2 25 (C 11)), (27, oL 2 25 (C 12))])
                refine wp_iload G 11 dX3_fillCosts_136 rfl ?_
                refine wp_lload G 0 dX3_fillCosts_138 rfl ?_
                refine wp_lastE (j := c + 1) (hp2 := (nx, h, [(15, oL 2 25 (C 0)), (16, oL 2 25 (C 1)), (17, oL 2 25 (C 2)), (18, oL 2 25 (C 3)), (19, oL 2 25 (C 4)), (20, oL 2 25 (C 5)), (21, oL 2 25 (fup Kr (c + 1) ((((if 0 ≤ (q 1 (la 5) - q 1 (lb c)) then (q 1 (la 5) - q 1 (lb c)) else -(q 1 (la 5) - q 1 (lb c))) + (farZ (q 2 (la 5)) (q 3 (la 5)) (q 2 (lb c)) (q 3 (lb c))) + (if 0 ≤ (q 4 (la 5) - q 4 (lb c)) then (q 4 (la 5) - q 4 (lb c)) else -(q 4 (la 5) - q 4 (lb c)))) * 23298085122481) + ((((c + 1 : Nat) : Int) - 1) * ((dgP (5 + 1) : Nat) : Int))))), (22, oL 2 25 (C 7)), (23, oL 2 25 (C 8)), (24, oL 2 25 (C 9)), (25, oL 2 25 (C 10)), (26, oL 2 25 (C 11)), (27, oL 2 25 (C 12))])) G dX3_fillCosts_140 rfl rfl (by omega) (by decide) rfl ?_
                refine wp_iinc (lv' := [(9, zI (((c + 1 : Nat) : Int) + 1)), (10, zJ ((((if 0 ≤ (q 1 (la 5) - q 1 (lb c)) then (q 1 (la 5) - q 1 (lb c)) else -(q 1 (la 5) - q 1 (lb c))) + (farZ (q 2 (la 5)) (q 3 (la 5)) (q 2 (lb c)) (q 3 (lb c))) + (if 0 ≤ (q 4 (la 5) - q 4 (lb c)) then (q 4 (la 5) - q 4 (lb c)) else -(q 4 (la 5) - q 4 (lb c)))) * 23298085122481) + ((((c + 1 : Nat) : Int) - 1) * ((dgP (5 + 1) : Nat) : Int)))), (13, zI (bt ((if 0 ≤ (q 1 (la 5) - q 1 (lb c)) then (q 1 (la 5) - q 1 (lb c)) else -(q 1 (la 5) - q 1 (lb c))) ≤ (st 0) ∧ (farZ (q 2 (la 5)) (q 3 (la 5)) (q 2 (lb c)) (q 3 (lb c))) ≤ (st 1) ∧ (if 0 ≤ (q 4 (la 5) - q 4 (lb c)) then (q 4 (la 5) - q 4 (lb c)) else -(q 4 (la 5) - q 4 (lb c))) ≤ (st 2)))), (12, zI ((lb c : Nat) : Int)), (0, zR 11), (1, zR 2), (2, zI (st 0)), (3, zI (st 1)), (4, zI (st 2)), (5, zJ ((dgP (5 + 1) : Nat) : Int)), (7, zI ((5 + 1 : Nat) : Int)), (8, zI ((la 5 : Nat) : Int))]) G 11 dX3_fillCosts_141 rfl (by decide) rfl ?_
                refine wp_goto G dX3_fillCosts_144 ?_
                refine wp_lv [4, 5, 6, 7, 8, 9, 10, 11, 0] rfl ?_
                exact ih39 (c + 1) (fup Kr (c + 1) ((((if 0 ≤ (q 1 (la 5) - q 1 (lb c)) then (q 1 (la 5) - q 1 (lb c)) else -(q 1 (la 5) - q 1 (lb c))) + (farZ (q 2 (la 5)) (q 3 (la 5)) (q 2 (lb c)) (q 3 (lb c))) + (if 0 ≤ (q 4 (la 5) - q 4 (lb c)) then (q 4 (la 5) - q 4 (lb c)) else -(q 4 (la 5) - q 4 (lb c)))) * 23298085122481) + ((((c + 1 : Nat) : Int) - 1) * ((dgP (5 + 1) : Nat) : Int)))) (((c + 1 : Nat) : Int) + 1) (by omega) (by omega) (by omega) (by exact f_put hK (by first | exact kst_a (by omega) | exact kst_s (by omega) (by assumption) | exact kst_n (by omega) (by assumption)))
      · skip
        refine wp_lload G 5 dX3_fillCosts_17 rfl ?_
        refine wp_ldc2 (z := 13) G kX3_88 dX3_fillCosts_19 ?_
        refine wp_ldiv G (by omega) (by omega) (by omega) (by omega) dX3_fillCosts_22 ?_
        rw [show ((((dgP 6 : Nat) : Int) / 13) : Int) = ((dgP (6 + 1) : Nat) : Int) from dg_s (by omega)]
        refine wp_lstore (lv' := [(5, zJ ((dgP (6 + 1) : Nat) : Int)), (0, zR 11), (1, zR 2), (2, zI (st 0)), (3, zI (st 1)), (4, zI (st 2)), (7, zI ((6 + 1 : Nat) : Int))]) G dX3_fillCosts_23 (by decide) rfl ?_
        refine wp_aload_n G 1 dX3_fillCosts_25 rfl ?_
        refine wp_get G 5 cOk3 fX3_27 dX3_fillCosts_26 h11 rfl ?_
        refine wp_iload G 6 dX3_fillCosts_29 rfl ?_
        refine wp_iconst G dX3_fillCosts_31 ?_
        refine wp_isub G dX3_fillCosts_32 ?_
        refine wp_iald (j := 6) G dX3_fillCosts_33 h12 (by omega) (by omega) (by decide) ?_
        rw [(hA 6 (by omega)).1]
        have hak := (hA 6 (by omega)).2
        refine wp_istore (lv' := [(8, zI ((la 6 : Nat) : Int)), (5, zJ ((dgP (6 + 1) : Nat) : Int)), (0, zR 11), (1, zR 2), (2, zI (st 0)), (3, zI (st 1)), (4, zI (st 2)), (7, zI ((6 + 1 : Nat) : Int))]) G dX3_fillCosts_34 (by decide) rfl ?_
        refine wp_iconst G dX3_fillCosts_36 ?_
        refine wp_istore (lv' := [(9, zI 1), (8, zI ((la 6 : Nat) : Int)), (5, zJ ((dgP (6 + 1) : Nat) : Int)), (0, zR 11), (1, zR 2), (2, zI (st 0)), (3, zI (st 1)), (4, zI (st 2)), (7, zI ((6 + 1 : Nat) : Int))]) G dX3_fillCosts_37 (by decide) rfl ?_
        refine wp_lv [3, 4, 5, 6, 7, 2, 8, 1, 0] rfl ?_
        suffices lp39 : ∀ (fu : Nat) (c : Nat) (Kr : Nat → Int) (v9 : Int), cl - c < fu → (v9 = ((c + 1 : Nat) : Int)) → (c ≤ cl) → (∀ j, 1 ≤ j → j ≤ c → Kr j = kst (XJ q st la lb) pt (6 + 1) j) → Wp K 14 (Mx K h (fun rr nx' l' => ∃ (C : Nat → Nat → Int), (∀ i, 1 ≤ i → i ≤ rw_ → ∀ j, 1 ≤ j → j ≤ cl → C i j = kst (XJ q st la lb) pt (i) j) ∧ rr = none ∧ nx' = nx ∧ l' = [(15, oL 2 25 (C 0)), (16, oL 2 25 (C 1)), (17, oL 2 25 (C 2)), (18, oL 2 25 (C 3)), (19, oL 2 25 (C 4)), (20, oL 2 25 (C 5)), (21, oL 2 25 (C 6)), (22, oL 2 25 (C 7)), (23, oL 2 25 (C 8)), (24, oL 2 25 (C 9)), (25, oL 2 25 (C 10)), (26, oL 2 25 (C 11)), (27, oL 2 25 (C 12))]) (0, 0)) (0, 0) 39 [(0, zR 11), (1, zR 2), (2, zI (st 0)), (3, zI (st 1)), (4, zI (st 2)), (5, zJ ((dgP (6 + 1) : Nat) : Int)), (7, zI ((6 + 1 : Nat) : Int)), (8, zI ((la 6 : Nat) : Int)), (9, zI v9)] [] (nx, h, [(15, oL 2 25 (C 0)), (16, oL 2 25 (C 1)), (17, oL 2 25 (C 2)), (18, oL 2 25 (C 3)), (19, oL 2 25 (C 4)), (20, oL 2 25 (C 5)), (21, oL 2 25 (C 6)), (22, oL 2 25 Kr), (23, oL 2 25 (C 8)), (24, oL 2 25 (C 9)), (25, oL 2 25 (C 10)), (26, oL 2 25 (C 11)), (27, oL 2 25 (C 12))]) from lp39 _ 0 (C 7) 1 (Nat.lt_succ_self _) (by omega) (by omega) (by intro j h1 h2; omega)
        intro fu
        induction fu with
        | zero => intro c Kr v9 hm; exact absurd hm (Nat.not_lt_zero _)
        | succ fu ih39 =>
          intro c Kr v9 hm39 e9 hi0 hK
          subst e9
          refine wp_iload G 8 dX3_fillCosts_39 rfl ?_
          refine wp_aload_n G 0 dX3_fillCosts_41 rfl ?_
          refine wp_get G 4 cOk3 fX3_24 dX3_fillCosts_42 h11 rfl ?_
          refine wp_icmp_gt G dX3_fillCosts_45 (by omega) (by omega) (fun kq20 => ?_) (fun kq20 => ?_)
          · skip
            refine wp_iinc (lv' := [(7, zI (((6 + 1 : Nat) : Int) + 1)), (0, zR 11), (1, zR 2), (2, zI (st 0)), (3, zI (st 1)), (4, zI (st 2)), (5, zJ ((dgP (6 + 1) : Nat) : Int)), (8, zI ((la 6 : Nat) : Int)), (9, zI ((c + 1 : Nat) : Int))]) G 6 dX3_fillCosts_147 rfl (by decide) rfl ?_
            refine wp_goto G dX3_fillCosts_150 ?_
            refine wp_lv [1, 2, 3, 4, 5, 6, 0] rfl ?_
            exact ih8 (6 + 1) (fup C (6 + 1) Kr) ((dgP (6 + 1) : Nat) : Int) (((6 + 1 : Nat) : Int) + 1) (by omega) (by rfl) (by omega) (by omega) (by exact r_put hK0 (fun j h1 h2 => hK j h1 (by omega)))
          · skip
            refine wp_ldc2 (z := 23298085122481000) G kX3_90 dX3_fillCosts_48 ?_
            refine wp_ldc2 (z := 12) G kX3_92 dX3_fillCosts_51 ?_
            refine wp_lload G 5 dX3_fillCosts_54 rfl ?_
            refine wp_lmul G dX3_fillCosts_56 ?_
            refine wp_ladd G dX3_fillCosts_57 ?_
            refine wp_lstore (lv' := [(10, zJ (23298085122481000 + (12 * ((dgP (6 + 1) : Nat) : Int)))), (0, zR 11), (1, zR 2), (2, zI (st 0)), (3, zI (st 1)), (4, zI (st 2)), (5, zJ ((dgP (6 + 1) : Nat) : Int)), (7, zI ((6 + 1 : Nat) : Int)), (8, zI ((la 6 : Nat) : Int)), (9, zI ((c + 1 : Nat) : Int))]) G dX3_fillCosts_58 (by decide) rfl ?_
            refine wp_iload G 9 dX3_fillCosts_60 rfl ?_
            refine wp_aload_n G 1 dX3_fillCosts_62 rfl ?_
            refine wp_get G 3 cOk3 fX3_21 dX3_fillCosts_63 h11 rfl ?_
            refine wp_icmp_gt G dX3_fillCosts_66 (by omega) (by omega) (fun kq21 => ?_) (fun kq21 => ?_)
            · skip
              refine wp_aload_n G 1 dX3_fillCosts_129 rfl ?_
              refine wp_get G 7 cOk3 fX3_36 dX3_fillCosts_130 h11 rfl ?_
              refine wp_iload G 7 dX3_fillCosts_133 rfl ?_
              refine wp_aald (j := 6 + 1) G (by decide) (by decide) dX3_fillCosts_135 h14 rfl (by omega) (by decide) ?_
              show Wp K 14 (Mx K h (fun rr nx' l' => ∃ (C : Nat → Nat → Int), (∀ i, 1 ≤ i → i ≤ rw_ → ∀ j, 1 ≤ j → j ≤ cl → C i j = kst (XJ q st la lb) pt (i) j) ∧ rr = none ∧ nx' = nx ∧ l' = [(15, oL 2 25 (C 0)), (16, oL 2 25 (C 1)), (17, oL 2 25 (C 2)), (18, oL 2 25 (C 3)), (19, oL 2 25 (C 4)), (20, oL 2 25 (C 5)), (21, oL 2 25 (C 6)), (22, oL 2 25 (C 7)), (23, oL 2 25 (C 8)), (24, oL 2 25 (C 9)), (25, oL 2 25 (C 10)), (26, oL 2 25 (C 11)), (27, oL 2 25 (C 12))]) (0, 0)) (0, 0) 136 [(10, zJ (23298085122481000 + (12 * ((dgP (6 + 1) : Nat) : Int)))), (0, zR 11), (1, zR 2), (2, zI (st 0)), (3, zI (st 1)), (4, zI (st 2)), (5, zJ ((dgP (6 + 1) : Nat) : Int)), (7, zI ((6 + 1 : Nat) : Int)), (8, zI ((la 6 : Nat) : Int)), (9, zI ((c + 1 : Nat) : Int))] [zR 22] (nx, h, [(15, oL 2 25 (C 0)), (16, oL 2 25 (C 1)), (17, oL 2 25 (C 2)), (18, oL 2 25 (C 3)), (19, oL 2 25 (C 4)), (20, oL 2 25 (C 5)), (21, oL 2 25 (C 6)), (22, oL 2 25 Kr), (23, oL 2 25 (C 8)), (24, oL 2 25 (C 9)), (25, oL 2 25 (C 10)), (26, oL 2 25 (C 11)), (27, oL 2 25 (C 12))])
              refine wp_iload G 9 dX3_fillCosts_136 rfl ?_
              refine wp_lload G 0 dX3_fillCosts_138 rfl ?_
              refine wp_lastE (j := c + 1) (hp2 := (nx, h, [(15, oL 2 25 (C 0)), (16, oL 2 25 (C 1)), (17, oL 2 25 (C 2)), (18, oL 2 25 (C 3)), (19, oL 2 25 (C 4)), (20, oL 2 25 (C 5)), (21, oL 2 25 (C 6)), (22, oL 2 25 (fup Kr (c + 1) (23298085122481000 + (12 * ((dgP (6 + 1) : Nat) : Int))))), (23, oL 2 25 (C 8)), (24, oL 2 25 (C 9)), (25, oL 2 25 (C 10)), (26, oL 2 25 (C 11)), (27, oL 2 25 (C 12))])) G dX3_fillCosts_140 rfl rfl (by omega) (by decide) rfl ?_
              refine wp_iinc (lv' := [(9, zI (((c + 1 : Nat) : Int) + 1)), (10, zJ (23298085122481000 + (12 * ((dgP (6 + 1) : Nat) : Int)))), (0, zR 11), (1, zR 2), (2, zI (st 0)), (3, zI (st 1)), (4, zI (st 2)), (5, zJ ((dgP (6 + 1) : Nat) : Int)), (7, zI ((6 + 1 : Nat) : Int)), (8, zI ((la 6 : Nat) : Int))]) G 9 dX3_fillCosts_141 rfl (by decide) rfl ?_
              refine wp_goto G dX3_fillCosts_144 ?_
              refine wp_lv [2, 3, 4, 5, 6, 7, 8, 9, 0] rfl ?_
              exact ih39 (c + 1) (fup Kr (c + 1) (23298085122481000 + (12 * ((dgP (6 + 1) : Nat) : Int)))) (((c + 1 : Nat) : Int) + 1) (by omega) (by omega) (by omega) (by exact f_put hK (by first | exact kst_a (by omega) | exact kst_s (by omega) (by assumption) | exact kst_n (by omega) (by assumption)))
            · skip
              refine wp_aload_n G 1 dX3_fillCosts_69 rfl ?_
              refine wp_get G 6 cOk3 fX3_31 dX3_fillCosts_70 h11 rfl ?_
              refine wp_iload G 9 dX3_fillCosts_73 rfl ?_
              refine wp_iconst G dX3_fillCosts_75 ?_
              refine wp_isub G dX3_fillCosts_76 ?_
              refine wp_iald (j := c) G dX3_fillCosts_77 h13 (by omega) (by omega) (by decide) ?_
              rw [(hB c (by omega)).1]
              have hbc := (hB c (by omega)).2
              have hmb := mis_b hO hak hbc
              refine wp_istore (lv' := [(12, zI ((lb c : Nat) : Int)), (10, zJ (23298085122481000 + (12 * ((dgP (6 + 1) : Nat) : Int)))), (0, zR 11), (1, zR 2), (2, zI (st 0)), (3, zI (st 1)), (4, zI (st 2)), (5, zJ ((dgP (6 + 1) : Nat) : Int)), (7, zI ((6 + 1 : Nat) : Int)), (8, zI ((la 6 : Nat) : Int)), (9, zI ((c + 1 : Nat) : Int))]) G dX3_fillCosts_78 (by decide) rfl ?_
              refine wp_aload_n G 3 dX3_fillCosts_80 rfl ?_
              refine wp_iload G 9 dX3_fillCosts_81 rfl ?_
              refine wp_iload G 0 dX3_fillCosts_83 rfl ?_
              refine wp_iload_n G 4 dX3_fillCosts_85 rfl ?_
              refine wp_iload_n G 5 dX3_fillCosts_86 rfl ?_
              refine wp_iload G 6 dX3_fillCosts_87 rfl ?_
              refine wp_cSE (as := [zR 2, zI ((la 6 : Nat) : Int), zI ((lb c : Nat) : Int), zI (st 0), zI (st 1), zI (st 2)]) (rest := []) (hp2 := (nx, h, [(15, oL 2 25 (C 0)), (16, oL 2 25 (C 1)), (17, oL 2 25 (C 2)), (18, oL 2 25 (C 3)), (19, oL 2 25 (C 4)), (20, oL 2 25 (C 5)), (21, oL 2 25 (C 6)), (22, oL 2 25 Kr), (23, oL 2 25 (C 8)), (24, oL 2 25 (C 9)), (25, oL 2 25 (C 10)), (26, oL 2 25 (C 11)), (27, oL 2 25 (C 12))])) G mX3_maySame lX3_94 sX3_maySame dX3_fillCosts_89 rfl rfl (Nat.le_of_ble_eq_true rfl) (rmx_ok hR (by decide) (by decide) (by decide) (by decide)) (t_X3_maySame (nx := nx) (i := (la 6)) (j := (lb c)) (dd := (st 0)) (ff := (st 1)) (tt := (st 2)) hQ hO (by omega) (by omega) (by omega) (by omega) (by omega)) rfl ?_
              refine wp_istore (lv' := [(13, zI (bt ((if 0 ≤ (q 1 (la 6) - q 1 (lb c)) then (q 1 (la 6) - q 1 (lb c)) else -(q 1 (la 6) - q 1 (lb c))) ≤ (st 0) ∧ (farZ (q 2 (la 6)) (q 3 (la 6)) (q 2 (lb c)) (q 3 (lb c))) ≤ (st 1) ∧ (if 0 ≤ (q 4 (la 6) - q 4 (lb c)) then (q 4 (la 6) - q 4 (lb c)) else -(q 4 (la 6) - q 4 (lb c))) ≤ (st 2)))), (12, zI ((lb c : Nat) : Int)), (10, zJ (23298085122481000 + (12 * ((dgP (6 + 1) : Nat) : Int)))), (0, zR 11), (1, zR 2), (2, zI (st 0)), (3, zI (st 1)), (4, zI (st 2)), (5, zJ ((dgP (6 + 1) : Nat) : Int)), (7, zI ((6 + 1 : Nat) : Int)), (8, zI ((la 6 : Nat) : Int)), (9, zI ((c + 1 : Nat) : Int))]) G dX3_fillCosts_92 (by decide) rfl ?_
              refine wp_iload G 0 dX3_fillCosts_94 rfl ?_
              refine wp_ifeq_bt G dX3_fillCosts_96 (fun kq22 => ?_) (fun kq22 => ?_)
              · skip
                refine wp_ldc2 (z := 1000000000000000000) G kX3_102 dX3_fillCosts_124 ?_
                refine wp_lstore (lv' := [(10, zJ 1000000000000000000), (13, zI (bt ((if 0 ≤ (q 1 (la 6) - q 1 (lb c)) then (q 1 (la 6) - q 1 (lb c)) else -(q 1 (la 6) - q 1 (lb c))) ≤ (st 0) ∧ (farZ (q 2 (la 6)) (q 3 (la 6)) (q 2 (lb c)) (q 3 (lb c))) ≤ (st 1) ∧ (if 0 ≤ (q 4 (la 6) - q 4 (lb c)) then (q 4 (la 6) - q 4 (lb c)) else -(q 4 (la 6) - q 4 (lb c))) ≤ (st 2)))), (12, zI ((lb c : Nat) : Int)), (0, zR 11), (1, zR 2), (2, zI (st 0)), (3, zI (st 1)), (4, zI (st 2)), (5, zJ ((dgP (6 + 1) : Nat) : Int)), (7, zI ((6 + 1 : Nat) : Int)), (8, zI ((la 6 : Nat) : Int)), (9, zI ((c + 1 : Nat) : Int))]) G dX3_fillCosts_127 (by decide) rfl ?_
                refine wp_aload_n G 3 dX3_fillCosts_129 rfl ?_
                refine wp_get G 7 cOk3 fX3_36 dX3_fillCosts_130 h11 rfl ?_
                refine wp_iload G 9 dX3_fillCosts_133 rfl ?_
                refine wp_aald (j := 6 + 1) G (by decide) (by decide) dX3_fillCosts_135 h14 rfl (by omega) (by decide) ?_
                show Wp K 14 (Mx K h (fun rr nx' l' => ∃ (C : Nat → Nat → Int), (∀ i, 1 ≤ i → i ≤ rw_ → ∀ j, 1 ≤ j → j ≤ cl → C i j = kst (XJ q st la lb) pt (i) j) ∧ rr = none ∧ nx' = nx ∧ l' = [(15, oL 2 25 (C 0)), (16, oL 2 25 (C 1)), (17, oL 2 25 (C 2)), (18, oL 2 25 (C 3)), (19, oL 2 25 (C 4)), (20, oL 2 25 (C 5)), (21, oL 2 25 (C 6)), (22, oL 2 25 (C 7)), (23, oL 2 25 (C 8)), (24, oL 2 25 (C 9)), (25, oL 2 25 (C 10)), (26, oL 2 25 (C 11)), (27, oL 2 25 (C 12))]) (0, 0)) (0, 0) 136 [(10, zJ 1000000000000000000), (13, zI (bt ((if 0 ≤ (q 1 (la 6) - q 1 (lb c)) then (q 1 (la 6) - q 1 (lb c)) else -(q 1 (la 6) - q 1 (lb c))) ≤ (st 0) ∧ (farZ (q 2 (la 6)) (q 3 (la 6)) (q 2 (lb c)) (q 3 (lb c))) ≤ (st 1) ∧ (if 0 ≤ (q 4 (la 6) - q 4 (lb c)) then (q 4 (la 6) - q 4 (lb c)) else -(q 4 (la 6) - q 4 (lb c))) ≤ (st 2)))), (12, zI ((lb c : Nat) : Int)), (0, zR 11), (1, zR 2), (2, zI (st 0)), (3, zI (st 1)), (4, zI (st 2)), (5, zJ ((dgP (6 + 1) : Nat) : Int)), (7, zI ((6 + 1 : Nat) : Int)), (8, zI ((la 6 : Nat) : Int)), (9, zI ((c + 1 : Nat) : Int))] [zR 22] (nx, h, [(15, oL 2 25 (C 0)), (16, oL 2 25 (C 1)), (17, oL 2 25 (C 2)), (18, oL 2 25 (C 3)), (19, oL 2 25 (C 4)), (20, oL 2 25 (C 5)), (21, oL 2 25 (C 6)), (22, oL 2 25 Kr), (23, oL 2 25 (C 8)), (24, oL 2 25 (C 9)), (25, oL 2 25 (C 10)), (26, oL 2 25 (C 11)), (27, oL 2 25 (C 12))])
                refine wp_iload G 11 dX3_fillCosts_136 rfl ?_
                refine wp_lload G 0 dX3_fillCosts_138 rfl ?_
                refine wp_lastE (j := c + 1) (hp2 := (nx, h, [(15, oL 2 25 (C 0)), (16, oL 2 25 (C 1)), (17, oL 2 25 (C 2)), (18, oL 2 25 (C 3)), (19, oL 2 25 (C 4)), (20, oL 2 25 (C 5)), (21, oL 2 25 (C 6)), (22, oL 2 25 (fup Kr (c + 1) 1000000000000000000)), (23, oL 2 25 (C 8)), (24, oL 2 25 (C 9)), (25, oL 2 25 (C 10)), (26, oL 2 25 (C 11)), (27, oL 2 25 (C 12))])) G dX3_fillCosts_140 rfl rfl (by omega) (by decide) rfl ?_
                refine wp_iinc (lv' := [(9, zI (((c + 1 : Nat) : Int) + 1)), (10, zJ 1000000000000000000), (13, zI (bt ((if 0 ≤ (q 1 (la 6) - q 1 (lb c)) then (q 1 (la 6) - q 1 (lb c)) else -(q 1 (la 6) - q 1 (lb c))) ≤ (st 0) ∧ (farZ (q 2 (la 6)) (q 3 (la 6)) (q 2 (lb c)) (q 3 (lb c))) ≤ (st 1) ∧ (if 0 ≤ (q 4 (la 6) - q 4 (lb c)) then (q 4 (la 6) - q 4 (lb c)) else -(q 4 (la 6) - q 4 (lb c))) ≤ (st 2)))), (12, zI ((lb c : Nat) : Int)), (0, zR 11), (1, zR 2), (2, zI (st 0)), (3, zI (st 1)), (4, zI (st 2)), (5, zJ ((dgP (6 + 1) : Nat) : Int)), (7, zI ((6 + 1 : Nat) : Int)), (8, zI ((la 6 : Nat) : Int))]) G 11 dX3_fillCosts_141 rfl (by decide) rfl ?_
                refine wp_goto G dX3_fillCosts_144 ?_
                refine wp_lv [4, 5, 6, 7, 8, 9, 10, 11, 0] rfl ?_
                exact ih39 (c + 1) (fup Kr (c + 1) 1000000000000000000) (((c + 1 : Nat) : Int) + 1) (by omega) (by omega) (by omega) (by exact f_put hK (by first | exact kst_a (by omega) | exact kst_s (by omega) (by assumption) | exact kst_n (by omega) (by assumption)))
              · skip
                refine wp_aload_n G 4 dX3_fillCosts_99 rfl ?_
                refine wp_iload G 10 dX3_fillCosts_100 rfl ?_
                refine wp_iload G 1 dX3_fillCosts_102 rfl ?_
                refine wp_cSE (as := [zR 2, zI ((la 6 : Nat) : Int), zI ((lb c : Nat) : Int)]) (rest := []) (hp2 := (nx, h, [(15, oL 2 25 (C 0)), (16, oL 2 25 (C 1)), (17, oL 2 25 (C 2)), (18, oL 2 25 (C 3)), (19, oL 2 25 (C 4)), (20, oL 2 25 (C 5)), (21, oL 2 25 (C 6)), (22, oL 2 25 Kr), (23, oL 2 25 (C 8)), (24, oL 2 25 (C 9)), (25, oL 2 25 (C 10)), (26, oL 2 25 (C 11)), (27, oL 2 25 (C 12))])) G mX3_missOf lX3_98 sX3_missOf dX3_fillCosts_104 rfl rfl (Nat.le_of_ble_eq_true rfl) (rmx_ok hR (by decide) (by decide) (by decide) (by decide)) (t_X3_missOf (nx := nx) (i := (la 6)) (j := (lb c)) hQ hO (by omega) (by omega)) rfl ?_
                refine wp_i2l G (by omega) dX3_fillCosts_107 ?_
                refine wp_ldc2 (z := 23298085122481) G kX3_86 dX3_fillCosts_108 ?_
                refine wp_lmul G dX3_fillCosts_111 ?_
                refine wp_iload G 11 dX3_fillCosts_112 rfl ?_
                refine wp_iconst G dX3_fillCosts_114 ?_
                refine wp_isub G dX3_fillCosts_115 ?_
                refine wp_i2l G (by omega) dX3_fillCosts_116 ?_
                refine wp_lload G 8 dX3_fillCosts_117 rfl ?_
                refine wp_lmul G dX3_fillCosts_119 ?_
                refine wp_ladd G dX3_fillCosts_120 ?_
                refine wp_goto G dX3_fillCosts_121 ?_
                refine wp_lstore (lv' := [(10, zJ ((((if 0 ≤ (q 1 (la 6) - q 1 (lb c)) then (q 1 (la 6) - q 1 (lb c)) else -(q 1 (la 6) - q 1 (lb c))) + (farZ (q 2 (la 6)) (q 3 (la 6)) (q 2 (lb c)) (q 3 (lb c))) + (if 0 ≤ (q 4 (la 6) - q 4 (lb c)) then (q 4 (la 6) - q 4 (lb c)) else -(q 4 (la 6) - q 4 (lb c)))) * 23298085122481) + ((((c + 1 : Nat) : Int) - 1) * ((dgP (6 + 1) : Nat) : Int)))), (13, zI (bt ((if 0 ≤ (q 1 (la 6) - q 1 (lb c)) then (q 1 (la 6) - q 1 (lb c)) else -(q 1 (la 6) - q 1 (lb c))) ≤ (st 0) ∧ (farZ (q 2 (la 6)) (q 3 (la 6)) (q 2 (lb c)) (q 3 (lb c))) ≤ (st 1) ∧ (if 0 ≤ (q 4 (la 6) - q 4 (lb c)) then (q 4 (la 6) - q 4 (lb c)) else -(q 4 (la 6) - q 4 (lb c))) ≤ (st 2)))), (12, zI ((lb c : Nat) : Int)), (0, zR 11), (1, zR 2), (2, zI (st 0)), (3, zI (st 1)), (4, zI (st 2)), (5, zJ ((dgP (6 + 1) : Nat) : Int)), (7, zI ((6 + 1 : Nat) : Int)), (8, zI ((la 6 : Nat) : Int)), (9, zI ((c + 1 : Nat) : Int))]) G dX3_fillCosts_127 (by decide) rfl ?_
                refine wp_aload_n G 3 dX3_fillCosts_129 rfl ?_
                refine wp_get G 7 cOk3 fX3_36 dX3_fillCosts_130 h11 rfl ?_
                refine wp_iload G 9 dX3_fillCosts_133 rfl ?_
                refine wp_aald (j := 6 + 1) G (by decide) (by decide) dX3_fillCosts_135 h14 rfl (by omega) (by decide) ?_
                show Wp K 14 (Mx K h (fun rr nx' l' => ∃ (C : Nat → Nat → Int), (∀ i, 1 ≤ i → i ≤ rw_ → ∀ j, 1 ≤ j → j ≤ cl → C i j = kst (XJ q st la lb) pt (i) j) ∧ rr = none ∧ nx' = nx ∧ l' = [(15, oL 2 25 (C 0)), (16, oL 2 25 (C 1)), (17, oL 2 25 (C 2)), (18, oL 2 25 (C 3)), (19, oL 2 25 (C 4)), (20, oL 2 25 (C 5)), (21, oL 2 25 (C 6)), (22, oL 2 25 (C 7)), (23, oL 2 25 (C 8)), (24, oL 2 25 (C 9)), (25, oL 2 25 (C 10)), (26, oL 2 25 (C 11)), (27, oL 2 25 (C 12))]) (0, 0)) (0, 0) 136 [(10, zJ ((((if 0 ≤ (q 1 (la 6) - q 1 (lb c)) then (q 1 (la 6) - q 1 (lb c)) else -(q 1 (la 6) - q 1 (lb c))) + (farZ (q 2 (la 6)) (q 3 (la 6)) (q 2 (lb c)) (q 3 (lb c))) + (if 0 ≤ (q 4 (la 6) - q 4 (lb c)) then (q 4 (la 6) - q 4 (lb c)) else -(q 4 (la 6) - q 4 (lb c)))) * 23298085122481) + ((((c + 1 : Nat) : Int) - 1) * ((dgP (6 + 1) : Nat) : Int)))), (13, zI (bt ((if 0 ≤ (q 1 (la 6) - q 1 (lb c)) then (q 1 (la 6) - q 1 (lb c)) else -(q 1 (la 6) - q 1 (lb c))) ≤ (st 0) ∧ (farZ (q 2 (la 6)) (q 3 (la 6)) (q 2 (lb c)) (q 3 (lb c))) ≤ (st 1) ∧ (if 0 ≤ (q 4 (la 6) - q 4 (lb c)) then (q 4 (la 6) - q 4 (lb c)) else -(q 4 (la 6) - q 4 (lb c))) ≤ (st 2)))), (12, zI ((lb c : Nat) : Int)), (0, zR 11), (1, zR 2), (2, zI (st 0)), (3, zI (st 1)), (4, zI (st 2)), (5, zJ ((dgP (6 + 1) : Nat) : Int)), (7, zI ((6 + 1 : Nat) : Int)), (8, zI ((la 6 : Nat) : Int)), (9, zI ((c + 1 : Nat) : Int))] [zR 22] (nx, h, [(15, oL 2 25 (C 0)), (16, oL 2 25 (C 1)), (17, oL 2 25 (C 2)), (18, oL 2 25 (C 3)), (19, oL 2 25 (C 4)), (20, oL 2 25 (C 5)), (21, oL 2 25 (C 6)), (22, oL 2 25 Kr), (23, oL 2 25 (C 8)), (24, oL 2 25 (C 9)), (25, oL 2 25 (C 10)), (26, oL 2 25 (C 11)), (27, oL 2 25 (C 12))])
                refine wp_iload G 11 dX3_fillCosts_136 rfl ?_
                refine wp_lload G 0 dX3_fillCosts_138 rfl ?_
                refine wp_lastE (j := c + 1) (hp2 := (nx, h, [(15, oL 2 25 (C 0)), (16, oL 2 25 (C 1)), (17, oL 2 25 (C 2)), (18, oL 2 25 (C 3)), (19, oL 2 25 (C 4)), (20, oL 2 25 (C 5)), (21, oL 2 25 (C 6)), (22, oL 2 25 (fup Kr (c + 1) ((((if 0 ≤ (q 1 (la 6) - q 1 (lb c)) then (q 1 (la 6) - q 1 (lb c)) else -(q 1 (la 6) - q 1 (lb c))) + (farZ (q 2 (la 6)) (q 3 (la 6)) (q 2 (lb c)) (q 3 (lb c))) + (if 0 ≤ (q 4 (la 6) - q 4 (lb c)) then (q 4 (la 6) - q 4 (lb c)) else -(q 4 (la 6) - q 4 (lb c)))) * 23298085122481) + ((((c + 1 : Nat) : Int) - 1) * ((dgP (6 + 1) : Nat) : Int))))), (23, oL 2 25 (C 8)), (24, oL 2 25 (C 9)), (25, oL 2 25 (C 10)), (26, oL 2 25 (C 11)), (27, oL 2 25 (C 12))])) G dX3_fillCosts_140 rfl rfl (by omega) (by decide) rfl ?_
                refine wp_iinc (lv' := [(9, zI (((c + 1 : Nat) : Int) + 1)), (10, zJ ((((if 0 ≤ (q 1 (la 6) - q 1 (lb c)) then (q 1 (la 6) - q 1 (lb c)) else -(q 1 (la 6) - q 1 (lb c))) + (farZ (q 2 (la 6)) (q 3 (la 6)) (q 2 (lb c)) (q 3 (lb c))) + (if 0 ≤ (q 4 (la 6) - q 4 (lb c)) then (q 4 (la 6) - q 4 (lb c)) else -(q 4 (la 6) - q 4 (lb c)))) * 23298085122481) + ((((c + 1 : Nat) : Int) - 1) * ((dgP (6 + 1) : Nat) : Int)))), (13, zI (bt ((if 0 ≤ (q 1 (la 6) - q 1 (lb c)) then (q 1 (la 6) - q 1 (lb c)) else -(q 1 (la 6) - q 1 (lb c))) ≤ (st 0) ∧ (farZ (q 2 (la 6)) (q 3 (la 6)) (q 2 (lb c)) (q 3 (lb c))) ≤ (st 1) ∧ (if 0 ≤ (q 4 (la 6) - q 4 (lb c)) then (q 4 (la 6) - q 4 (lb c)) else -(q 4 (la 6) - q 4 (lb c))) ≤ (st 2)))), (12, zI ((lb c : Nat) : Int)), (0, zR 11), (1, zR 2), (2, zI (st 0)), (3, zI (st 1)), (4, zI (st 2)), (5, zJ ((dgP (6 + 1) : Nat) : Int)), (7, zI ((6 + 1 : Nat) : Int)), (8, zI ((la 6 : Nat) : Int))]) G 11 dX3_fillCosts_141 rfl (by decide) rfl ?_
                refine wp_goto G dX3_fillCosts_144 ?_
                refine wp_lv [4, 5, 6, 7, 8, 9, 10, 11, 0] rfl ?_
                exact ih39 (c + 1) (fup Kr (c + 1) ((((if 0 ≤ (q 1 (la 6) - q 1 (lb c)) then (q 1 (la 6) - q 1 (lb c)) else -(q 1 (la 6) - q 1 (lb c))) + (farZ (q 2 (la 6)) (q 3 (la 6)) (q 2 (lb c)) (q 3 (lb c))) + (if 0 ≤ (q 4 (la 6) - q 4 (lb c)) then (q 4 (la 6) - q 4 (lb c)) else -(q 4 (la 6) - q 4 (lb c)))) * 23298085122481) + ((((c + 1 : Nat) : Int) - 1) * ((dgP (6 + 1) : Nat) : Int)))) (((c + 1 : Nat) : Int) + 1) (by omega) (by omega) (by omega) (by exact f_put hK (by first | exact kst_a (by omega) | exact kst_s (by omega) (by assumption) | exact kst_n (by omega) (by assumption)))
      · skip
        refine wp_lload G 5 dX3_fillCosts_17 rfl ?_
        refine wp_ldc2 (z := 13) G kX3_88 dX3_fillCosts_19 ?_
        refine wp_ldiv G (by omega) (by omega) (by omega) (by omega) dX3_fillCosts_22 ?_
        rw [show ((((dgP 7 : Nat) : Int) / 13) : Int) = ((dgP (7 + 1) : Nat) : Int) from dg_s (by omega)]
        refine wp_lstore (lv' := [(5, zJ ((dgP (7 + 1) : Nat) : Int)), (0, zR 11), (1, zR 2), (2, zI (st 0)), (3, zI (st 1)), (4, zI (st 2)), (7, zI ((7 + 1 : Nat) : Int))]) G dX3_fillCosts_23 (by decide) rfl ?_
        refine wp_aload_n G 1 dX3_fillCosts_25 rfl ?_
        refine wp_get G 5 cOk3 fX3_27 dX3_fillCosts_26 h11 rfl ?_
        refine wp_iload G 6 dX3_fillCosts_29 rfl ?_
        refine wp_iconst G dX3_fillCosts_31 ?_
        refine wp_isub G dX3_fillCosts_32 ?_
        refine wp_iald (j := 7) G dX3_fillCosts_33 h12 (by omega) (by omega) (by decide) ?_
        rw [(hA 7 (by omega)).1]
        have hak := (hA 7 (by omega)).2
        refine wp_istore (lv' := [(8, zI ((la 7 : Nat) : Int)), (5, zJ ((dgP (7 + 1) : Nat) : Int)), (0, zR 11), (1, zR 2), (2, zI (st 0)), (3, zI (st 1)), (4, zI (st 2)), (7, zI ((7 + 1 : Nat) : Int))]) G dX3_fillCosts_34 (by decide) rfl ?_
        refine wp_iconst G dX3_fillCosts_36 ?_
        refine wp_istore (lv' := [(9, zI 1), (8, zI ((la 7 : Nat) : Int)), (5, zJ ((dgP (7 + 1) : Nat) : Int)), (0, zR 11), (1, zR 2), (2, zI (st 0)), (3, zI (st 1)), (4, zI (st 2)), (7, zI ((7 + 1 : Nat) : Int))]) G dX3_fillCosts_37 (by decide) rfl ?_
        refine wp_lv [3, 4, 5, 6, 7, 2, 8, 1, 0] rfl ?_
        suffices lp39 : ∀ (fu : Nat) (c : Nat) (Kr : Nat → Int) (v9 : Int), cl - c < fu → (v9 = ((c + 1 : Nat) : Int)) → (c ≤ cl) → (∀ j, 1 ≤ j → j ≤ c → Kr j = kst (XJ q st la lb) pt (7 + 1) j) → Wp K 14 (Mx K h (fun rr nx' l' => ∃ (C : Nat → Nat → Int), (∀ i, 1 ≤ i → i ≤ rw_ → ∀ j, 1 ≤ j → j ≤ cl → C i j = kst (XJ q st la lb) pt (i) j) ∧ rr = none ∧ nx' = nx ∧ l' = [(15, oL 2 25 (C 0)), (16, oL 2 25 (C 1)), (17, oL 2 25 (C 2)), (18, oL 2 25 (C 3)), (19, oL 2 25 (C 4)), (20, oL 2 25 (C 5)), (21, oL 2 25 (C 6)), (22, oL 2 25 (C 7)), (23, oL 2 25 (C 8)), (24, oL 2 25 (C 9)), (25, oL 2 25 (C 10)), (26, oL 2 25 (C 11)), (27, oL 2 25 (C 12))]) (0, 0)) (0, 0) 39 [(0, zR 11), (1, zR 2), (2, zI (st 0)), (3, zI (st 1)), (4, zI (st 2)), (5, zJ ((dgP (7 + 1) : Nat) : Int)), (7, zI ((7 + 1 : Nat) : Int)), (8, zI ((la 7 : Nat) : Int)), (9, zI v9)] [] (nx, h, [(15, oL 2 25 (C 0)), (16, oL 2 25 (C 1)), (17, oL 2 25 (C 2)), (18, oL 2 25 (C 3)), (19, oL 2 25 (C 4)), (20, oL 2 25 (C 5)), (21, oL 2 25 (C 6)), (22, oL 2 25 (C 7)), (23, oL 2 25 Kr), (24, oL 2 25 (C 9)), (25, oL 2 25 (C 10)), (26, oL 2 25 (C 11)), (27, oL 2 25 (C 12))]) from lp39 _ 0 (C 8) 1 (Nat.lt_succ_self _) (by omega) (by omega) (by intro j h1 h2; omega)
        intro fu
        induction fu with
        | zero => intro c Kr v9 hm; exact absurd hm (Nat.not_lt_zero _)
        | succ fu ih39 =>
          intro c Kr v9 hm39 e9 hi0 hK
          subst e9
          refine wp_iload G 8 dX3_fillCosts_39 rfl ?_
          refine wp_aload_n G 0 dX3_fillCosts_41 rfl ?_
          refine wp_get G 4 cOk3 fX3_24 dX3_fillCosts_42 h11 rfl ?_
          refine wp_icmp_gt G dX3_fillCosts_45 (by omega) (by omega) (fun kq23 => ?_) (fun kq23 => ?_)
          · skip
            refine wp_iinc (lv' := [(7, zI (((7 + 1 : Nat) : Int) + 1)), (0, zR 11), (1, zR 2), (2, zI (st 0)), (3, zI (st 1)), (4, zI (st 2)), (5, zJ ((dgP (7 + 1) : Nat) : Int)), (8, zI ((la 7 : Nat) : Int)), (9, zI ((c + 1 : Nat) : Int))]) G 6 dX3_fillCosts_147 rfl (by decide) rfl ?_
            refine wp_goto G dX3_fillCosts_150 ?_
            refine wp_lv [1, 2, 3, 4, 5, 6, 0] rfl ?_
            exact ih8 (7 + 1) (fup C (7 + 1) Kr) ((dgP (7 + 1) : Nat) : Int) (((7 + 1 : Nat) : Int) + 1) (by omega) (by rfl) (by omega) (by omega) (by exact r_put hK0 (fun j h1 h2 => hK j h1 (by omega)))
          · skip
            refine wp_ldc2 (z := 23298085122481000) G kX3_90 dX3_fillCosts_48 ?_
            refine wp_ldc2 (z := 12) G kX3_92 dX3_fillCosts_51 ?_
            refine wp_lload G 5 dX3_fillCosts_54 rfl ?_
            refine wp_lmul G dX3_fillCosts_56 ?_
            refine wp_ladd G dX3_fillCosts_57 ?_
            refine wp_lstore (lv' := [(10, zJ (23298085122481000 + (12 * ((dgP (7 + 1) : Nat) : Int)))), (0, zR 11), (1, zR 2), (2, zI (st 0)), (3, zI (st 1)), (4, zI (st 2)), (5, zJ ((dgP (7 + 1) : Nat) : Int)), (7, zI ((7 + 1 : Nat) : Int)), (8, zI ((la 7 : Nat) : Int)), (9, zI ((c + 1 : Nat) : Int))]) G dX3_fillCosts_58 (by decide) rfl ?_
            refine wp_iload G 9 dX3_fillCosts_60 rfl ?_
            refine wp_aload_n G 1 dX3_fillCosts_62 rfl ?_
            refine wp_get G 3 cOk3 fX3_21 dX3_fillCosts_63 h11 rfl ?_
            refine wp_icmp_gt G dX3_fillCosts_66 (by omega) (by omega) (fun kq24 => ?_) (fun kq24 => ?_)
            · skip
              refine wp_aload_n G 1 dX3_fillCosts_129 rfl ?_
              refine wp_get G 7 cOk3 fX3_36 dX3_fillCosts_130 h11 rfl ?_
              refine wp_iload G 7 dX3_fillCosts_133 rfl ?_
              refine wp_aald (j := 7 + 1) G (by decide) (by decide) dX3_fillCosts_135 h14 rfl (by omega) (by decide) ?_
              show Wp K 14 (Mx K h (fun rr nx' l' => ∃ (C : Nat → Nat → Int), (∀ i, 1 ≤ i → i ≤ rw_ → ∀ j, 1 ≤ j → j ≤ cl → C i j = kst (XJ q st la lb) pt (i) j) ∧ rr = none ∧ nx' = nx ∧ l' = [(15, oL 2 25 (C 0)), (16, oL 2 25 (C 1)), (17, oL 2 25 (C 2)), (18, oL 2 25 (C 3)), (19, oL 2 25 (C 4)), (20, oL 2 25 (C 5)), (21, oL 2 25 (C 6)), (22, oL 2 25 (C 7)), (23, oL 2 25 (C 8)), (24, oL 2 25 (C 9)), (25, oL 2 25 (C 10)), (26, oL 2 25 (C 11)), (27, oL 2 25 (C 12))]) (0, 0)) (0, 0) 136 [(10, zJ (23298085122481000 + (12 * ((dgP (7 + 1) : Nat) : Int)))), (0, zR 11), (1, zR 2), (2, zI (st 0)), (3, zI (st 1)), (4, zI (st 2)), (5, zJ ((dgP (7 + 1) : Nat) : Int)), (7, zI ((7 + 1 : Nat) : Int)), (8, zI ((la 7 : Nat) : Int)), (9, zI ((c + 1 : Nat) : Int))] [zR 23] (nx, h, [(15, oL 2 25 (C 0)), (16, oL 2 25 (C 1)), (17, oL 2 25 (C 2)), (18, oL 2 25 (C 3)), (19, oL 2 25 (C 4)), (20, oL 2 25 (C 5)), (21, oL 2 25 (C 6)), (22, oL 2 25 (C 7)), (23, oL 2 25 Kr), (24, oL 2 25 (C 9)), (25, oL 2 25 (C 10)), (26, oL 2 25 (C 11)), (27, oL 2 25 (C 12))])
              refine wp_iload G 9 dX3_fillCosts_136 rfl ?_
              refine wp_lload G 0 dX3_fillCosts_138 rfl ?_
              refine wp_lastE (j := c + 1) (hp2 := (nx, h, [(15, oL 2 25 (C 0)), (16, oL 2 25 (C 1)), (17, oL 2 25 (C 2)), (18, oL 2 25 (C 3)), (19, oL 2 25 (C 4)), (20, oL 2 25 (C 5)), (21, oL 2 25 (C 6)), (22, oL 2 25 (C 7)), (23, oL 2 25 (fup Kr (c + 1) (23298085122481000 + (12 * ((dgP (7 + 1) : Nat) : Int))))), (24, oL 2 25 (C 9)), (25, oL 2 25 (C 10)), (26, oL 2 25 (C 11)), (27, oL 2 25 (C 12))])) G dX3_fillCosts_140 rfl rfl (by omega) (by decide) rfl ?_
              refine wp_iinc (lv' := [(9, zI (((c + 1 : Nat) : Int) + 1)), (10, zJ (23298085122481000 + (12 * ((dgP (7 + 1) : Nat) : Int)))), (0, zR 11), (1, zR 2), (2, zI (st 0)), (3, zI (st 1)), (4, zI (st 2)), (5, zJ ((dgP (7 + 1) : Nat) : Int)), (7, zI ((7 + 1 : Nat) : Int)), (8, zI ((la 7 : Nat) : Int))]) G 9 dX3_fillCosts_141 rfl (by decide) rfl ?_
              refine wp_goto G dX3_fillCosts_144 ?_
              refine wp_lv [2, 3, 4, 5, 6, 7, 8, 9, 0] rfl ?_
              exact ih39 (c + 1) (fup Kr (c + 1) (23298085122481000 + (12 * ((dgP (7 + 1) : Nat) : Int)))) (((c + 1 : Nat) : Int) + 1) (by omega) (by omega) (by omega) (by exact f_put hK (by first | exact kst_a (by omega) | exact kst_s (by omega) (by assumption) | exact kst_n (by omega) (by assumption)))
            · skip
              refine wp_aload_n G 1 dX3_fillCosts_69 rfl ?_
              refine wp_get G 6 cOk3 fX3_31 dX3_fillCosts_70 h11 rfl ?_
              refine wp_iload G 9 dX3_fillCosts_73 rfl ?_
              refine wp_iconst G dX3_fillCosts_75 ?_
              refine wp_isub G dX3_fillCosts_76 ?_
              refine wp_iald (j := c) G dX3_fillCosts_77 h13 (by omega) (by omega) (by decide) ?_
              rw [(hB c (by omega)).1]
              have hbc := (hB c (by omega)).2
              have hmb := mis_b hO hak hbc
              refine wp_istore (lv' := [(12, zI ((lb c : Nat) : Int)), (10, zJ (23298085122481000 + (12 * ((dgP (7 + 1) : Nat) : Int)))), (0, zR 11), (1, zR 2), (2, zI (st 0)), (3, zI (st 1)), (4, zI (st 2)), (5, zJ ((dgP (7 + 1) : Nat) : Int)), (7, zI ((7 + 1 : Nat) : Int)), (8, zI ((la 7 : Nat) : Int)), (9, zI ((c + 1 : Nat) : Int))]) G dX3_fillCosts_78 (by decide) rfl ?_
              refine wp_aload_n G 3 dX3_fillCosts_80 rfl ?_
              refine wp_iload G 9 dX3_fillCosts_81 rfl ?_
              refine wp_iload G 0 dX3_fillCosts_83 rfl ?_
              refine wp_iload_n G 4 dX3_fillCosts_85 rfl ?_
              refine wp_iload_n G 5 dX3_fillCosts_86 rfl ?_
              refine wp_iload G 6 dX3_fillCosts_87 rfl ?_
              refine wp_cSE (as := [zR 2, zI ((la 7 : Nat) : Int), zI ((lb c : Nat) : Int), zI (st 0), zI (st 1), zI (st 2)]) (rest := []) (hp2 := (nx, h, [(15, oL 2 25 (C 0)), (16, oL 2 25 (C 1)), (17, oL 2 25 (C 2)), (18, oL 2 25 (C 3)), (19, oL 2 25 (C 4)), (20, oL 2 25 (C 5)), (21, oL 2 25 (C 6)), (22, oL 2 25 (C 7)), (23, oL 2 25 Kr), (24, oL 2 25 (C 9)), (25, oL 2 25 (C 10)), (26, oL 2 25 (C 11)), (27, oL 2 25 (C 12))])) G mX3_maySame lX3_94 sX3_maySame dX3_fillCosts_89 rfl rfl (Nat.le_of_ble_eq_true rfl) (rmx_ok hR (by decide) (by decide) (by decide) (by decide)) (t_X3_maySame (nx := nx) (i := (la 7)) (j := (lb c)) (dd := (st 0)) (ff := (st 1)) (tt := (st 2)) hQ hO (by omega) (by omega) (by omega) (by omega) (by omega)) rfl ?_
              refine wp_istore (lv' := [(13, zI (bt ((if 0 ≤ (q 1 (la 7) - q 1 (lb c)) then (q 1 (la 7) - q 1 (lb c)) else -(q 1 (la 7) - q 1 (lb c))) ≤ (st 0) ∧ (farZ (q 2 (la 7)) (q 3 (la 7)) (q 2 (lb c)) (q 3 (lb c))) ≤ (st 1) ∧ (if 0 ≤ (q 4 (la 7) - q 4 (lb c)) then (q 4 (la 7) - q 4 (lb c)) else -(q 4 (la 7) - q 4 (lb c))) ≤ (st 2)))), (12, zI ((lb c : Nat) : Int)), (10, zJ (23298085122481000 + (12 * ((dgP (7 + 1) : Nat) : Int)))), (0, zR 11), (1, zR 2), (2, zI (st 0)), (3, zI (st 1)), (4, zI (st 2)), (5, zJ ((dgP (7 + 1) : Nat) : Int)), (7, zI ((7 + 1 : Nat) : Int)), (8, zI ((la 7 : Nat) : Int)), (9, zI ((c + 1 : Nat) : Int))]) G dX3_fillCosts_92 (by decide) rfl ?_
              refine wp_iload G 0 dX3_fillCosts_94 rfl ?_
              refine wp_ifeq_bt G dX3_fillCosts_96 (fun kq25 => ?_) (fun kq25 => ?_)
              · skip
                refine wp_ldc2 (z := 1000000000000000000) G kX3_102 dX3_fillCosts_124 ?_
                refine wp_lstore (lv' := [(10, zJ 1000000000000000000), (13, zI (bt ((if 0 ≤ (q 1 (la 7) - q 1 (lb c)) then (q 1 (la 7) - q 1 (lb c)) else -(q 1 (la 7) - q 1 (lb c))) ≤ (st 0) ∧ (farZ (q 2 (la 7)) (q 3 (la 7)) (q 2 (lb c)) (q 3 (lb c))) ≤ (st 1) ∧ (if 0 ≤ (q 4 (la 7) - q 4 (lb c)) then (q 4 (la 7) - q 4 (lb c)) else -(q 4 (la 7) - q 4 (lb c))) ≤ (st 2)))), (12, zI ((lb c : Nat) : Int)), (0, zR 11), (1, zR 2), (2, zI (st 0)), (3, zI (st 1)), (4, zI (st 2)), (5, zJ ((dgP (7 + 1) : Nat) : Int)), (7, zI ((7 + 1 : Nat) : Int)), (8, zI ((la 7 : Nat) : Int)), (9, zI ((c + 1 : Nat) : Int))]) G dX3_fillCosts_127 (by decide) rfl ?_
                refine wp_aload_n G 3 dX3_fillCosts_129 rfl ?_
                refine wp_get G 7 cOk3 fX3_36 dX3_fillCosts_130 h11 rfl ?_
                refine wp_iload G 9 dX3_fillCosts_133 rfl ?_
                refine wp_aald (j := 7 + 1) G (by decide) (by decide) dX3_fillCosts_135 h14 rfl (by omega) (by decide) ?_
                show Wp K 14 (Mx K h (fun rr nx' l' => ∃ (C : Nat → Nat → Int), (∀ i, 1 ≤ i → i ≤ rw_ → ∀ j, 1 ≤ j → j ≤ cl → C i j = kst (XJ q st la lb) pt (i) j) ∧ rr = none ∧ nx' = nx ∧ l' = [(15, oL 2 25 (C 0)), (16, oL 2 25 (C 1)), (17, oL 2 25 (C 2)), (18, oL 2 25 (C 3)), (19, oL 2 25 (C 4)), (20, oL 2 25 (C 5)), (21, oL 2 25 (C 6)), (22, oL 2 25 (C 7)), (23, oL 2 25 (C 8)), (24, oL 2 25 (C 9)), (25, oL 2 25 (C 10)), (26, oL 2 25 (C 11)), (27, oL 2 25 (C 12))]) (0, 0)) (0, 0) 136 [(10, zJ 1000000000000000000), (13, zI (bt ((if 0 ≤ (q 1 (la 7) - q 1 (lb c)) then (q 1 (la 7) - q 1 (lb c)) else -(q 1 (la 7) - q 1 (lb c))) ≤ (st 0) ∧ (farZ (q 2 (la 7)) (q 3 (la 7)) (q 2 (lb c)) (q 3 (lb c))) ≤ (st 1) ∧ (if 0 ≤ (q 4 (la 7) - q 4 (lb c)) then (q 4 (la 7) - q 4 (lb c)) else -(q 4 (la 7) - q 4 (lb c))) ≤ (st 2)))), (12, zI ((lb c : Nat) : Int)), (0, zR 11), (1, zR 2), (2, zI (st 0)), (3, zI (st 1)), (4, zI (st 2)), (5, zJ ((dgP (7 + 1) : Nat) : Int)), (7, zI ((7 + 1 : Nat) : Int)), (8, zI ((la 7 : Nat) : Int)), (9, zI ((c + 1 : Nat) : Int))] [zR 23] (nx, h, [(15, oL 2 25 (C 0)), (16, oL 2 25 (C 1)), (17, oL 2 25 (C 2)), (18, oL 2 25 (C 3)), (19, oL 2 25 (C 4)), (20, oL 2 25 (C 5)), (21, oL 2 25 (C 6)), (22, oL 2 25 (C 7)), (23, oL 2 25 Kr), (24, oL 2 25 (C 9)), (25, oL 2 25 (C 10)), (26, oL 2 25 (C 11)), (27, oL 2 25 (C 12))])
                refine wp_iload G 11 dX3_fillCosts_136 rfl ?_
                refine wp_lload G 0 dX3_fillCosts_138 rfl ?_
                refine wp_lastE (j := c + 1) (hp2 := (nx, h, [(15, oL 2 25 (C 0)), (16, oL 2 25 (C 1)), (17, oL 2 25 (C 2)), (18, oL 2 25 (C 3)), (19, oL 2 25 (C 4)), (20, oL 2 25 (C 5)), (21, oL 2 25 (C 6)), (22, oL 2 25 (C 7)), (23, oL 2 25 (fup Kr (c + 1) 1000000000000000000)), (24, oL 2 25 (C 9)), (25, oL 2 25 (C 10)), (26, oL 2 25 (C 11)), (27, oL 2 25 (C 12))])) G dX3_fillCosts_140 rfl rfl (by omega) (by decide) rfl ?_
                refine wp_iinc (lv' := [(9, zI (((c + 1 : Nat) : Int) + 1)), (10, zJ 1000000000000000000), (13, zI (bt ((if 0 ≤ (q 1 (la 7) - q 1 (lb c)) then (q 1 (la 7) - q 1 (lb c)) else -(q 1 (la 7) - q 1 (lb c))) ≤ (st 0) ∧ (farZ (q 2 (la 7)) (q 3 (la 7)) (q 2 (lb c)) (q 3 (lb c))) ≤ (st 1) ∧ (if 0 ≤ (q 4 (la 7) - q 4 (lb c)) then (q 4 (la 7) - q 4 (lb c)) else -(q 4 (la 7) - q 4 (lb c))) ≤ (st 2)))), (12, zI ((lb c : Nat) : Int)), (0, zR 11), (1, zR 2), (2, zI (st 0)), (3, zI (st 1)), (4, zI (st 2)), (5, zJ ((dgP (7 + 1) : Nat) : Int)), (7, zI ((7 + 1 : Nat) : Int)), (8, zI ((la 7 : Nat) : Int))]) G 11 dX3_fillCosts_141 rfl (by decide) rfl ?_
                refine wp_goto G dX3_fillCosts_144 ?_
                refine wp_lv [4, 5, 6, 7, 8, 9, 10, 11, 0] rfl ?_
                exact ih39 (c + 1) (fup Kr (c + 1) 1000000000000000000) (((c + 1 : Nat) : Int) + 1) (by omega) (by omega) (by omega) (by exact f_put hK (by first | exact kst_a (by omega) | exact kst_s (by omega) (by assumption) | exact kst_n (by omega) (by assumption)))
              · skip
                refine wp_aload_n G 4 dX3_fillCosts_99 rfl ?_
                refine wp_iload G 10 dX3_fillCosts_100 rfl ?_
                refine wp_iload G 1 dX3_fillCosts_102 rfl ?_
                refine wp_cSE (as := [zR 2, zI ((la 7 : Nat) : Int), zI ((lb c : Nat) : Int)]) (rest := []) (hp2 := (nx, h, [(15, oL 2 25 (C 0)), (16, oL 2 25 (C 1)), (17, oL 2 25 (C 2)), (18, oL 2 25 (C 3)), (19, oL 2 25 (C 4)), (20, oL 2 25 (C 5)), (21, oL 2 25 (C 6)), (22, oL 2 25 (C 7)), (23, oL 2 25 Kr), (24, oL 2 25 (C 9)), (25, oL 2 25 (C 10)), (26, oL 2 25 (C 11)), (27, oL 2 25 (C 12))])) G mX3_missOf lX3_98 sX3_missOf dX3_fillCosts_104 rfl rfl (Nat.le_of_ble_eq_true rfl) (rmx_ok hR (by decide) (by decide) (by decide) (by decide)) (t_X3_missOf (nx := nx) (i := (la 7)) (j := (lb c)) hQ hO (by omega) (by omega)) rfl ?_
                refine wp_i2l G (by omega) dX3_fillCosts_107 ?_
                refine wp_ldc2 (z := 23298085122481) G kX3_86 dX3_fillCosts_108 ?_
                refine wp_lmul G dX3_fillCosts_111 ?_
                refine wp_iload G 11 dX3_fillCosts_112 rfl ?_
                refine wp_iconst G dX3_fillCosts_114 ?_
                refine wp_isub G dX3_fillCosts_115 ?_
                refine wp_i2l G (by omega) dX3_fillCosts_116 ?_
                refine wp_lload G 8 dX3_fillCosts_117 rfl ?_
                refine wp_lmul G dX3_fillCosts_119 ?_
                refine wp_ladd G dX3_fillCosts_120 ?_
                refine wp_goto G dX3_fillCosts_121 ?_
                refine wp_lstore (lv' := [(10, zJ ((((if 0 ≤ (q 1 (la 7) - q 1 (lb c)) then (q 1 (la 7) - q 1 (lb c)) else -(q 1 (la 7) - q 1 (lb c))) + (farZ (q 2 (la 7)) (q 3 (la 7)) (q 2 (lb c)) (q 3 (lb c))) + (if 0 ≤ (q 4 (la 7) - q 4 (lb c)) then (q 4 (la 7) - q 4 (lb c)) else -(q 4 (la 7) - q 4 (lb c)))) * 23298085122481) + ((((c + 1 : Nat) : Int) - 1) * ((dgP (7 + 1) : Nat) : Int)))), (13, zI (bt ((if 0 ≤ (q 1 (la 7) - q 1 (lb c)) then (q 1 (la 7) - q 1 (lb c)) else -(q 1 (la 7) - q 1 (lb c))) ≤ (st 0) ∧ (farZ (q 2 (la 7)) (q 3 (la 7)) (q 2 (lb c)) (q 3 (lb c))) ≤ (st 1) ∧ (if 0 ≤ (q 4 (la 7) - q 4 (lb c)) then (q 4 (la 7) - q 4 (lb c)) else -(q 4 (la 7) - q 4 (lb c))) ≤ (st 2)))), (12, zI ((lb c : Nat) : Int)), (0, zR 11), (1, zR 2), (2, zI (st 0)), (3, zI (st 1)), (4, zI (st 2)), (5, zJ ((dgP (7 + 1) : Nat) : Int)), (7, zI ((7 + 1 : Nat) : Int)), (8, zI ((la 7 : Nat) : Int)), (9, zI ((c + 1 : Nat) : Int))]) G dX3_fillCosts_127 (by decide) rfl ?_
                refine wp_aload_n G 3 dX3_fillCosts_129 rfl ?_
                refine wp_get G 7 cOk3 fX3_36 dX3_fillCosts_130 h11 rfl ?_
                refine wp_iload G 9 dX3_fillCosts_133 rfl ?_
                refine wp_aald (j := 7 + 1) G (by decide) (by decide) dX3_fillCosts_135 h14 rfl (by omega) (by decide) ?_
                show Wp K 14 (Mx K h (fun rr nx' l' => ∃ (C : Nat → Nat → Int), (∀ i, 1 ≤ i → i ≤ rw_ → ∀ j, 1 ≤ j → j ≤ cl → C i j = kst (XJ q st la lb) pt (i) j) ∧ rr = none ∧ nx' = nx ∧ l' = [(15, oL 2 25 (C 0)), (16, oL 2 25 (C 1)), (17, oL 2 25 (C 2)), (18, oL 2 25 (C 3)), (19, oL 2 25 (C 4)), (20, oL 2 25 (C 5)), (21, oL 2 25 (C 6)), (22, oL 2 25 (C 7)), (23, oL 2 25 (C 8)), (24, oL 2 25 (C 9)), (25, oL 2 25 (C 10)), (26, oL 2 25 (C 11)), (27, oL 2 25 (C 12))]) (0, 0)) (0, 0) 136 [(10, zJ ((((if 0 ≤ (q 1 (la 7) - q 1 (lb c)) then (q 1 (la 7) - q 1 (lb c)) else -(q 1 (la 7) - q 1 (lb c))) + (farZ (q 2 (la 7)) (q 3 (la 7)) (q 2 (lb c)) (q 3 (lb c))) + (if 0 ≤ (q 4 (la 7) - q 4 (lb c)) then (q 4 (la 7) - q 4 (lb c)) else -(q 4 (la 7) - q 4 (lb c)))) * 23298085122481) + ((((c + 1 : Nat) : Int) - 1) * ((dgP (7 + 1) : Nat) : Int)))), (13, zI (bt ((if 0 ≤ (q 1 (la 7) - q 1 (lb c)) then (q 1 (la 7) - q 1 (lb c)) else -(q 1 (la 7) - q 1 (lb c))) ≤ (st 0) ∧ (farZ (q 2 (la 7)) (q 3 (la 7)) (q 2 (lb c)) (q 3 (lb c))) ≤ (st 1) ∧ (if 0 ≤ (q 4 (la 7) - q 4 (lb c)) then (q 4 (la 7) - q 4 (lb c)) else -(q 4 (la 7) - q 4 (lb c))) ≤ (st 2)))), (12, zI ((lb c : Nat) : Int)), (0, zR 11), (1, zR 2), (2, zI (st 0)), (3, zI (st 1)), (4, zI (st 2)), (5, zJ ((dgP (7 + 1) : Nat) : Int)), (7, zI ((7 + 1 : Nat) : Int)), (8, zI ((la 7 : Nat) : Int)), (9, zI ((c + 1 : Nat) : Int))] [zR 23] (nx, h, [(15, oL 2 25 (C 0)), (16, oL 2 25 (C 1)), (17, oL 2 25 (C 2)), (18, oL 2 25 (C 3)), (19, oL 2 25 (C 4)), (20, oL 2 25 (C 5)), (21, oL 2 25 (C 6)), (22, oL 2 25 (C 7)), (23, oL 2 25 Kr), (24, oL 2 25 (C 9)), (25, oL 2 25 (C 10)), (26, oL 2 25 (C 11)), (27, oL 2 25 (C 12))])
                refine wp_iload G 11 dX3_fillCosts_136 rfl ?_
                refine wp_lload G 0 dX3_fillCosts_138 rfl ?_
                refine wp_lastE (j := c + 1) (hp2 := (nx, h, [(15, oL 2 25 (C 0)), (16, oL 2 25 (C 1)), (17, oL 2 25 (C 2)), (18, oL 2 25 (C 3)), (19, oL 2 25 (C 4)), (20, oL 2 25 (C 5)), (21, oL 2 25 (C 6)), (22, oL 2 25 (C 7)), (23, oL 2 25 (fup Kr (c + 1) ((((if 0 ≤ (q 1 (la 7) - q 1 (lb c)) then (q 1 (la 7) - q 1 (lb c)) else -(q 1 (la 7) - q 1 (lb c))) + (farZ (q 2 (la 7)) (q 3 (la 7)) (q 2 (lb c)) (q 3 (lb c))) + (if 0 ≤ (q 4 (la 7) - q 4 (lb c)) then (q 4 (la 7) - q 4 (lb c)) else -(q 4 (la 7) - q 4 (lb c)))) * 23298085122481) + ((((c + 1 : Nat) : Int) - 1) * ((dgP (7 + 1) : Nat) : Int))))), (24, oL 2 25 (C 9)), (25, oL 2 25 (C 10)), (26, oL 2 25 (C 11)), (27, oL 2 25 (C 12))])) G dX3_fillCosts_140 rfl rfl (by omega) (by decide) rfl ?_
                refine wp_iinc (lv' := [(9, zI (((c + 1 : Nat) : Int) + 1)), (10, zJ ((((if 0 ≤ (q 1 (la 7) - q 1 (lb c)) then (q 1 (la 7) - q 1 (lb c)) else -(q 1 (la 7) - q 1 (lb c))) + (farZ (q 2 (la 7)) (q 3 (la 7)) (q 2 (lb c)) (q 3 (lb c))) + (if 0 ≤ (q 4 (la 7) - q 4 (lb c)) then (q 4 (la 7) - q 4 (lb c)) else -(q 4 (la 7) - q 4 (lb c)))) * 23298085122481) + ((((c + 1 : Nat) : Int) - 1) * ((dgP (7 + 1) : Nat) : Int)))), (13, zI (bt ((if 0 ≤ (q 1 (la 7) - q 1 (lb c)) then (q 1 (la 7) - q 1 (lb c)) else -(q 1 (la 7) - q 1 (lb c))) ≤ (st 0) ∧ (farZ (q 2 (la 7)) (q 3 (la 7)) (q 2 (lb c)) (q 3 (lb c))) ≤ (st 1) ∧ (if 0 ≤ (q 4 (la 7) - q 4 (lb c)) then (q 4 (la 7) - q 4 (lb c)) else -(q 4 (la 7) - q 4 (lb c))) ≤ (st 2)))), (12, zI ((lb c : Nat) : Int)), (0, zR 11), (1, zR 2), (2, zI (st 0)), (3, zI (st 1)), (4, zI (st 2)), (5, zJ ((dgP (7 + 1) : Nat) : Int)), (7, zI ((7 + 1 : Nat) : Int)), (8, zI ((la 7 : Nat) : Int))]) G 11 dX3_fillCosts_141 rfl (by decide) rfl ?_
                refine wp_goto G dX3_fillCosts_144 ?_
                refine wp_lv [4, 5, 6, 7, 8, 9, 10, 11, 0] rfl ?_
                exact ih39 (c + 1) (fup Kr (c + 1) ((((if 0 ≤ (q 1 (la 7) - q 1 (lb c)) then (q 1 (la 7) - q 1 (lb c)) else -(q 1 (la 7) - q 1 (lb c))) + (farZ (q 2 (la 7)) (q 3 (la 7)) (q 2 (lb c)) (q 3 (lb c))) + (if 0 ≤ (q 4 (la 7) - q 4 (lb c)) then (q 4 (la 7) - q 4 (lb c)) else -(q 4 (la 7) - q 4 (lb c)))) * 23298085122481) + ((((c + 1 : Nat) : Int) - 1) * ((dgP (7 + 1) : Nat) : Int)))) (((c + 1 : Nat) : Int) + 1) (by omega) (by omega) (by omega) (by exact f_put hK (by first | exact kst_a (by omega) | exact kst_s (by omega) (by assumption) | exact kst_n (by omega) (by assumption)))
      · skip
        refine wp_lload G 5 dX3_fillCosts_17 rfl ?_
        refine wp_ldc2 (z := 13) G kX3_88 dX3_fillCosts_19 ?_
        refine wp_ldiv G (by omega) (by omega) (by omega) (by omega) dX3_fillCosts_22 ?_
        rw [show ((((dgP 8 : Nat) : Int) / 13) : Int) = ((dgP (8 + 1) : Nat) : Int) from dg_s (by omega)]
        refine wp_lstore (lv' := [(5, zJ ((dgP (8 + 1) : Nat) : Int)), (0, zR 11), (1, zR 2), (2, zI (st 0)), (3, zI (st 1)), (4, zI (st 2)), (7, zI ((8 + 1 : Nat) : Int))]) G dX3_fillCosts_23 (by decide) rfl ?_
        refine wp_aload_n G 1 dX3_fillCosts_25 rfl ?_
        refine wp_get G 5 cOk3 fX3_27 dX3_fillCosts_26 h11 rfl ?_
        refine wp_iload G 6 dX3_fillCosts_29 rfl ?_
        refine wp_iconst G dX3_fillCosts_31 ?_
        refine wp_isub G dX3_fillCosts_32 ?_
        refine wp_iald (j := 8) G dX3_fillCosts_33 h12 (by omega) (by omega) (by decide) ?_
        rw [(hA 8 (by omega)).1]
        have hak := (hA 8 (by omega)).2
        refine wp_istore (lv' := [(8, zI ((la 8 : Nat) : Int)), (5, zJ ((dgP (8 + 1) : Nat) : Int)), (0, zR 11), (1, zR 2), (2, zI (st 0)), (3, zI (st 1)), (4, zI (st 2)), (7, zI ((8 + 1 : Nat) : Int))]) G dX3_fillCosts_34 (by decide) rfl ?_
        refine wp_iconst G dX3_fillCosts_36 ?_
        refine wp_istore (lv' := [(9, zI 1), (8, zI ((la 8 : Nat) : Int)), (5, zJ ((dgP (8 + 1) : Nat) : Int)), (0, zR 11), (1, zR 2), (2, zI (st 0)), (3, zI (st 1)), (4, zI (st 2)), (7, zI ((8 + 1 : Nat) : Int))]) G dX3_fillCosts_37 (by decide) rfl ?_
        refine wp_lv [3, 4, 5, 6, 7, 2, 8, 1, 0] rfl ?_
        suffices lp39 : ∀ (fu : Nat) (c : Nat) (Kr : Nat → Int) (v9 : Int), cl - c < fu → (v9 = ((c + 1 : Nat) : Int)) → (c ≤ cl) → (∀ j, 1 ≤ j → j ≤ c → Kr j = kst (XJ q st la lb) pt (8 + 1) j) → Wp K 14 (Mx K h (fun rr nx' l' => ∃ (C : Nat → Nat → Int), (∀ i, 1 ≤ i → i ≤ rw_ → ∀ j, 1 ≤ j → j ≤ cl → C i j = kst (XJ q st la lb) pt (i) j) ∧ rr = none ∧ nx' = nx ∧ l' = [(15, oL 2 25 (C 0)), (16, oL 2 25 (C 1)), (17, oL 2 25 (C 2)), (18, oL 2 25 (C 3)), (19, oL 2 25 (C 4)), (20, oL 2 25 (C 5)), (21, oL 2 25 (C 6)), (22, oL 2 25 (C 7)), (23, oL 2 25 (C 8)), (24, oL 2 25 (C 9)), (25, oL 2 25 (C 10)), (26, oL 2 25 (C 11)), (27, oL 2 25 (C 12))]) (0, 0)) (0, 0) 39 [(0, zR 11), (1, zR 2), (2, zI (st 0)), (3, zI (st 1)), (4, zI (st 2)), (5, zJ ((dgP (8 + 1) : Nat) : Int)), (7, zI ((8 + 1 : Nat) : Int)), (8, zI ((la 8 : Nat) : Int)), (9, zI v9)] [] (nx, h, [(15, oL 2 25 (C 0)), (16, oL 2 25 (C 1)), (17, oL 2 25 (C 2)), (18, oL 2 25 (C 3)), (19, oL 2 25 (C 4)), (20, oL 2 25 (C 5)), (21, oL 2 25 (C 6)), (22, oL 2 25 (C 7)), (23, oL 2 25 (C 8)), (24, oL 2 25 Kr), (25, oL 2 25 (C 10)), (26, oL 2 25 (C 11)), (27, oL 2 25 (C 12))]) from lp39 _ 0 (C 9) 1 (Nat.lt_succ_self _) (by omega) (by omega) (by intro j h1 h2; omega)
        intro fu
        induction fu with
        | zero => intro c Kr v9 hm; exact absurd hm (Nat.not_lt_zero _)
        | succ fu ih39 =>
          intro c Kr v9 hm39 e9 hi0 hK
          subst e9
          refine wp_iload G 8 dX3_fillCosts_39 rfl ?_
          refine wp_aload_n G 0 dX3_fillCosts_41 rfl ?_
          refine wp_get G 4 cOk3 fX3_24 dX3_fillCosts_42 h11 rfl ?_
          refine wp_icmp_gt G dX3_fillCosts_45 (by omega) (by omega) (fun kq26 => ?_) (fun kq26 => ?_)
          · skip
            refine wp_iinc (lv' := [(7, zI (((8 + 1 : Nat) : Int) + 1)), (0, zR 11), (1, zR 2), (2, zI (st 0)), (3, zI (st 1)), (4, zI (st 2)), (5, zJ ((dgP (8 + 1) : Nat) : Int)), (8, zI ((la 8 : Nat) : Int)), (9, zI ((c + 1 : Nat) : Int))]) G 6 dX3_fillCosts_147 rfl (by decide) rfl ?_
            refine wp_goto G dX3_fillCosts_150 ?_
            refine wp_lv [1, 2, 3, 4, 5, 6, 0] rfl ?_
            exact ih8 (8 + 1) (fup C (8 + 1) Kr) ((dgP (8 + 1) : Nat) : Int) (((8 + 1 : Nat) : Int) + 1) (by omega) (by rfl) (by omega) (by omega) (by exact r_put hK0 (fun j h1 h2 => hK j h1 (by omega)))
          · skip
            refine wp_ldc2 (z := 23298085122481000) G kX3_90 dX3_fillCosts_48 ?_
            refine wp_ldc2 (z := 12) G kX3_92 dX3_fillCosts_51 ?_
            refine wp_lload G 5 dX3_fillCosts_54 rfl ?_
            refine wp_lmul G dX3_fillCosts_56 ?_
            refine wp_ladd G dX3_fillCosts_57 ?_
            refine wp_lstore (lv' := [(10, zJ (23298085122481000 + (12 * ((dgP (8 + 1) : Nat) : Int)))), (0, zR 11), (1, zR 2), (2, zI (st 0)), (3, zI (st 1)), (4, zI (st 2)), (5, zJ ((dgP (8 + 1) : Nat) : Int)), (7, zI ((8 + 1 : Nat) : Int)), (8, zI ((la 8 : Nat) : Int)), (9, zI ((c + 1 : Nat) : Int))]) G dX3_fillCosts_58 (by decide) rfl ?_
            refine wp_iload G 9 dX3_fillCosts_60 rfl ?_
            refine wp_aload_n G 1 dX3_fillCosts_62 rfl ?_
            refine wp_get G 3 cOk3 fX3_21 dX3_fillCosts_63 h11 rfl ?_
            refine wp_icmp_gt G dX3_fillCosts_66 (by omega) (by omega) (fun kq27 => ?_) (fun kq27 => ?_)
            · skip
              refine wp_aload_n G 1 dX3_fillCosts_129 rfl ?_
              refine wp_get G 7 cOk3 fX3_36 dX3_fillCosts_130 h11 rfl ?_
              refine wp_iload G 7 dX3_fillCosts_133 rfl ?_
              refine wp_aald (j := 8 + 1) G (by decide) (by decide) dX3_fillCosts_135 h14 rfl (by omega) (by decide) ?_
              show Wp K 14 (Mx K h (fun rr nx' l' => ∃ (C : Nat → Nat → Int), (∀ i, 1 ≤ i → i ≤ rw_ → ∀ j, 1 ≤ j → j ≤ cl → C i j = kst (XJ q st la lb) pt (i) j) ∧ rr = none ∧ nx' = nx ∧ l' = [(15, oL 2 25 (C 0)), (16, oL 2 25 (C 1)), (17, oL 2 25 (C 2)), (18, oL 2 25 (C 3)), (19, oL 2 25 (C 4)), (20, oL 2 25 (C 5)), (21, oL 2 25 (C 6)), (22, oL 2 25 (C 7)), (23, oL 2 25 (C 8)), (24, oL 2 25 (C 9)), (25, oL 2 25 (C 10)), (26, oL 2 25 (C 11)), (27, oL 2 25 (C 12))]) (0, 0)) (0, 0) 136 [(10, zJ (23298085122481000 + (12 * ((dgP (8 + 1) : Nat) : Int)))), (0, zR 11), (1, zR 2), (2, zI (st 0)), (3, zI (st 1)), (4, zI (st 2)), (5, zJ ((dgP (8 + 1) : Nat) : Int)), (7, zI ((8 + 1 : Nat) : Int)), (8, zI ((la 8 : Nat) : Int)), (9, zI ((c + 1 : Nat) : Int))] [zR 24] (nx, h, [(15, oL 2 25 (C 0)), (16, oL 2 25 (C 1)), (17, oL 2 25 (C 2)), (18, oL 2 25 (C 3)), (19, oL 2 25 (C 4)), (20, oL 2 25 (C 5)), (21, oL 2 25 (C 6)), (22, oL 2 25 (C 7)), (23, oL 2 25 (C 8)), (24, oL 2 25 Kr), (25, oL 2 25 (C 10)), (26, oL 2 25 (C 11)), (27, oL 2 25 (C 12))])
              refine wp_iload G 9 dX3_fillCosts_136 rfl ?_
              refine wp_lload G 0 dX3_fillCosts_138 rfl ?_
              refine wp_lastE (j := c + 1) (hp2 := (nx, h, [(15, oL 2 25 (C 0)), (16, oL 2 25 (C 1)), (17, oL 2 25 (C 2)), (18, oL 2 25 (C 3)), (19, oL 2 25 (C 4)), (20, oL 2 25 (C 5)), (21, oL 2 25 (C 6)), (22, oL 2 25 (C 7)), (23, oL 2 25 (C 8)), (24, oL 2 25 (fup Kr (c + 1) (23298085122481000 + (12 * ((dgP (8 + 1) : Nat) : Int))))), (25, oL 2 25 (C 10)), (26, oL 2 25 (C 11)), (27, oL 2 25 (C 12))])) G dX3_fillCosts_140 rfl rfl (by omega) (by decide) rfl ?_
              refine wp_iinc (lv' := [(9, zI (((c + 1 : Nat) : Int) + 1)), (10, zJ (23298085122481000 + (12 * ((dgP (8 + 1) : Nat) : Int)))), (0, zR 11), (1, zR 2), (2, zI (st 0)), (3, zI (st 1)), (4, zI (st 2)), (5, zJ ((dgP (8 + 1) : Nat) : Int)), (7, zI ((8 + 1 : Nat) : Int)), (8, zI ((la 8 : Nat) : Int))]) G 9 dX3_fillCosts_141 rfl (by decide) rfl ?_
              refine wp_goto G dX3_fillCosts_144 ?_
              refine wp_lv [2, 3, 4, 5, 6, 7, 8, 9, 0] rfl ?_
              exact ih39 (c + 1) (fup Kr (c + 1) (23298085122481000 + (12 * ((dgP (8 + 1) : Nat) : Int)))) (((c + 1 : Nat) : Int) + 1) (by omega) (by omega) (by omega) (by exact f_put hK (by first | exact kst_a (by omega) | exact kst_s (by omega) (by assumption) | exact kst_n (by omega) (by assumption)))
            · skip
              refine wp_aload_n G 1 dX3_fillCosts_69 rfl ?_
              refine wp_get G 6 cOk3 fX3_31 dX3_fillCosts_70 h11 rfl ?_
              refine wp_iload G 9 dX3_fillCosts_73 rfl ?_
              refine wp_iconst G dX3_fillCosts_75 ?_
              refine wp_isub G dX3_fillCosts_76 ?_
              refine wp_iald (j := c) G dX3_fillCosts_77 h13 (by omega) (by omega) (by decide) ?_
              rw [(hB c (by omega)).1]
              have hbc := (hB c (by omega)).2
              have hmb := mis_b hO hak hbc
              refine wp_istore (lv' := [(12, zI ((lb c : Nat) : Int)), (10, zJ (23298085122481000 + (12 * ((dgP (8 + 1) : Nat) : Int)))), (0, zR 11), (1, zR 2), (2, zI (st 0)), (3, zI (st 1)), (4, zI (st 2)), (5, zJ ((dgP (8 + 1) : Nat) : Int)), (7, zI ((8 + 1 : Nat) : Int)), (8, zI ((la 8 : Nat) : Int)), (9, zI ((c + 1 : Nat) : Int))]) G dX3_fillCosts_78 (by decide) rfl ?_
              refine wp_aload_n G 3 dX3_fillCosts_80 rfl ?_
              refine wp_iload G 9 dX3_fillCosts_81 rfl ?_
              refine wp_iload G 0 dX3_fillCosts_83 rfl ?_
              refine wp_iload_n G 4 dX3_fillCosts_85 rfl ?_
              refine wp_iload_n G 5 dX3_fillCosts_86 rfl ?_
              refine wp_iload G 6 dX3_fillCosts_87 rfl ?_
              refine wp_cSE (as := [zR 2, zI ((la 8 : Nat) : Int), zI ((lb c : Nat) : Int), zI (st 0), zI (st 1), zI (st 2)]) (rest := []) (hp2 := (nx, h, [(15, oL 2 25 (C 0)), (16, oL 2 25 (C 1)), (17, oL 2 25 (C 2)), (18, oL 2 25 (C 3)), (19, oL 2 25 (C 4)), (20, oL 2 25 (C 5)), (21, oL 2 25 (C 6)), (22, oL 2 25 (C 7)), (23, oL 2 25 (C 8)), (24, oL 2 25 Kr), (25, oL 2 25 (C 10)), (26, oL 2 25 (C 11)), (27, oL 2 25 (C 12))])) G mX3_maySame lX3_94 sX3_maySame dX3_fillCosts_89 rfl rfl (Nat.le_of_ble_eq_true rfl) (rmx_ok hR (by decide) (by decide) (by decide) (by decide)) (t_X3_maySame (nx := nx) (i := (la 8)) (j := (lb c)) (dd := (st 0)) (ff := (st 1)) (tt := (st 2)) hQ hO (by omega) (by omega) (by omega) (by omega) (by omega)) rfl ?_
              refine wp_istore (lv' := [(13, zI (bt ((if 0 ≤ (q 1 (la 8) - q 1 (lb c)) then (q 1 (la 8) - q 1 (lb c)) else -(q 1 (la 8) - q 1 (lb c))) ≤ (st 0) ∧ (farZ (q 2 (la 8)) (q 3 (la 8)) (q 2 (lb c)) (q 3 (lb c))) ≤ (st 1) ∧ (if 0 ≤ (q 4 (la 8) - q 4 (lb c)) then (q 4 (la 8) - q 4 (lb c)) else -(q 4 (la 8) - q 4 (lb c))) ≤ (st 2)))), (12, zI ((lb c : Nat) : Int)), (10, zJ (23298085122481000 + (12 * ((dgP (8 + 1) : Nat) : Int)))), (0, zR 11), (1, zR 2), (2, zI (st 0)), (3, zI (st 1)), (4, zI (st 2)), (5, zJ ((dgP (8 + 1) : Nat) : Int)), (7, zI ((8 + 1 : Nat) : Int)), (8, zI ((la 8 : Nat) : Int)), (9, zI ((c + 1 : Nat) : Int))]) G dX3_fillCosts_92 (by decide) rfl ?_
              refine wp_iload G 0 dX3_fillCosts_94 rfl ?_
              refine wp_ifeq_bt G dX3_fillCosts_96 (fun kq28 => ?_) (fun kq28 => ?_)
              · skip
                refine wp_ldc2 (z := 1000000000000000000) G kX3_102 dX3_fillCosts_124 ?_
                refine wp_lstore (lv' := [(10, zJ 1000000000000000000), (13, zI (bt ((if 0 ≤ (q 1 (la 8) - q 1 (lb c)) then (q 1 (la 8) - q 1 (lb c)) else -(q 1 (la 8) - q 1 (lb c))) ≤ (st 0) ∧ (farZ (q 2 (la 8)) (q 3 (la 8)) (q 2 (lb c)) (q 3 (lb c))) ≤ (st 1) ∧ (if 0 ≤ (q 4 (la 8) - q 4 (lb c)) then (q 4 (la 8) - q 4 (lb c)) else -(q 4 (la 8) - q 4 (lb c))) ≤ (st 2)))), (12, zI ((lb c : Nat) : Int)), (0, zR 11), (1, zR 2), (2, zI (st 0)), (3, zI (st 1)), (4, zI (st 2)), (5, zJ ((dgP (8 + 1) : Nat) : Int)), (7, zI ((8 + 1 : Nat) : Int)), (8, zI ((la 8 : Nat) : Int)), (9, zI ((c + 1 : Nat) : Int))]) G dX3_fillCosts_127 (by decide) rfl ?_
                refine wp_aload_n G 3 dX3_fillCosts_129 rfl ?_
                refine wp_get G 7 cOk3 fX3_36 dX3_fillCosts_130 h11 rfl ?_
                refine wp_iload G 9 dX3_fillCosts_133 rfl ?_
                refine wp_aald (j := 8 + 1) G (by decide) (by decide) dX3_fillCosts_135 h14 rfl (by omega) (by decide) ?_
                show Wp K 14 (Mx K h (fun rr nx' l' => ∃ (C : Nat → Nat → Int), (∀ i, 1 ≤ i → i ≤ rw_ → ∀ j, 1 ≤ j → j ≤ cl → C i j = kst (XJ q st la lb) pt (i) j) ∧ rr = none ∧ nx' = nx ∧ l' = [(15, oL 2 25 (C 0)), (16, oL 2 25 (C 1)), (17, oL 2 25 (C 2)), (18, oL 2 25 (C 3)), (19, oL 2 25 (C 4)), (20, oL 2 25 (C 5)), (21, oL 2 25 (C 6)), (22, oL 2 25 (C 7)), (23, oL 2 25 (C 8)), (24, oL 2 25 (C 9)), (25, oL 2 25 (C 10)), (26, oL 2 25 (C 11)), (27, oL 2 25 (C 12))]) (0, 0)) (0, 0) 136 [(10, zJ 1000000000000000000), (13, zI (bt ((if 0 ≤ (q 1 (la 8) - q 1 (lb c)) then (q 1 (la 8) - q 1 (lb c)) else -(q 1 (la 8) - q 1 (lb c))) ≤ (st 0) ∧ (farZ (q 2 (la 8)) (q 3 (la 8)) (q 2 (lb c)) (q 3 (lb c))) ≤ (st 1) ∧ (if 0 ≤ (q 4 (la 8) - q 4 (lb c)) then (q 4 (la 8) - q 4 (lb c)) else -(q 4 (la 8) - q 4 (lb c))) ≤ (st 2)))), (12, zI ((lb c : Nat) : Int)), (0, zR 11), (1, zR 2), (2, zI (st 0)), (3, zI (st 1)), (4, zI (st 2)), (5, zJ ((dgP (8 + 1) : Nat) : Int)), (7, zI ((8 + 1 : Nat) : Int)), (8, zI ((la 8 : Nat) : Int)), (9, zI ((c + 1 : Nat) : Int))] [zR 24] (nx, h, [(15, oL 2 25 (C 0)), (16, oL 2 25 (C 1)), (17, oL 2 25 (C 2)), (18, oL 2 25 (C 3)), (19, oL 2 25 (C 4)), (20, oL 2 25 (C 5)), (21, oL 2 25 (C 6)), (22, oL 2 25 (C 7)), (23, oL 2 25 (C 8)), (24, oL 2 25 Kr), (25, oL 2 25 (C 10)), (26, oL 2 25 (C 11)), (27, oL 2 25 (C 12))])
                refine wp_iload G 11 dX3_fillCosts_136 rfl ?_
                refine wp_lload G 0 dX3_fillCosts_138 rfl ?_
                refine wp_lastE (j := c + 1) (hp2 := (nx, h, [(15, oL 2 25 (C 0)), (16, oL 2 25 (C 1)), (17, oL 2 25 (C 2)), (18, oL 2 25 (C 3)), (19, oL 2 25 (C 4)), (20, oL 2 25 (C 5)), (21, oL 2 25 (C 6)), (22, oL 2 25 (C 7)), (23, oL 2 25 (C 8)), (24, oL 2 25 (fup Kr (c + 1) 1000000000000000000)), (25, oL 2 25 (C 10)), (26, oL 2 25 (C 11)), (27, oL 2 25 (C 12))])) G dX3_fillCosts_140 rfl rfl (by omega) (by decide) rfl ?_
                refine wp_iinc (lv' := [(9, zI (((c + 1 : Nat) : Int) + 1)), (10, zJ 1000000000000000000), (13, zI (bt ((if 0 ≤ (q 1 (la 8) - q 1 (lb c)) then (q 1 (la 8) - q 1 (lb c)) else -(q 1 (la 8) - q 1 (lb c))) ≤ (st 0) ∧ (farZ (q 2 (la 8)) (q 3 (la 8)) (q 2 (lb c)) (q 3 (lb c))) ≤ (st 1) ∧ (if 0 ≤ (q 4 (la 8) - q 4 (lb c)) then (q 4 (la 8) - q 4 (lb c)) else -(q 4 (la 8) - q 4 (lb c))) ≤ (st 2)))), (12, zI ((lb c : Nat) : Int)), (0, zR 11), (1, zR 2), (2, zI (st 0)), (3, zI (st 1)), (4, zI (st 2)), (5, zJ ((dgP (8 + 1) : Nat) : Int)), (7, zI ((8 + 1 : Nat) : Int)), (8, zI ((la 8 : Nat) : Int))]) G 11 dX3_fillCosts_141 rfl (by decide) rfl ?_
                refine wp_goto G dX3_fillCosts_144 ?_
                refine wp_lv [4, 5, 6, 7, 8, 9, 10, 11, 0] rfl ?_
                exact ih39 (c + 1) (fup Kr (c + 1) 1000000000000000000) (((c + 1 : Nat) : Int) + 1) (by omega) (by omega) (by omega) (by exact f_put hK (by first | exact kst_a (by omega) | exact kst_s (by omega) (by assumption) | exact kst_n (by omega) (by assumption)))
              · skip
                refine wp_aload_n G 4 dX3_fillCosts_99 rfl ?_
                refine wp_iload G 10 dX3_fillCosts_100 rfl ?_
                refine wp_iload G 1 dX3_fillCosts_102 rfl ?_
                refine wp_cSE (as := [zR 2, zI ((la 8 : Nat) : Int), zI ((lb c : Nat) : Int)]) (rest := []) (hp2 := (nx, h, [(15, oL 2 25 (C 0)), (16, oL 2 25 (C 1)), (17, oL 2 25 (C 2)), (18, oL 2 25 (C 3)), (19, oL 2 25 (C 4)), (20, oL 2 25 (C 5)), (21, oL 2 25 (C 6)), (22, oL 2 25 (C 7)), (23, oL 2 25 (C 8)), (24, oL 2 25 Kr), (25, oL 2 25 (C 10)), (26, oL 2 25 (C 11)), (27, oL 2 25 (C 12))])) G mX3_missOf lX3_98 sX3_missOf dX3_fillCosts_104 rfl rfl (Nat.le_of_ble_eq_true rfl) (rmx_ok hR (by decide) (by decide) (by decide) (by decide)) (t_X3_missOf (nx := nx) (i := (la 8)) (j := (lb c)) hQ hO (by omega) (by omega)) rfl ?_
                refine wp_i2l G (by omega) dX3_fillCosts_107 ?_
                refine wp_ldc2 (z := 23298085122481) G kX3_86 dX3_fillCosts_108 ?_
                refine wp_lmul G dX3_fillCosts_111 ?_
                refine wp_iload G 11 dX3_fillCosts_112 rfl ?_
                refine wp_iconst G dX3_fillCosts_114 ?_
                refine wp_isub G dX3_fillCosts_115 ?_
                refine wp_i2l G (by omega) dX3_fillCosts_116 ?_
                refine wp_lload G 8 dX3_fillCosts_117 rfl ?_
                refine wp_lmul G dX3_fillCosts_119 ?_
                refine wp_ladd G dX3_fillCosts_120 ?_
                refine wp_goto G dX3_fillCosts_121 ?_
                refine wp_lstore (lv' := [(10, zJ ((((if 0 ≤ (q 1 (la 8) - q 1 (lb c)) then (q 1 (la 8) - q 1 (lb c)) else -(q 1 (la 8) - q 1 (lb c))) + (farZ (q 2 (la 8)) (q 3 (la 8)) (q 2 (lb c)) (q 3 (lb c))) + (if 0 ≤ (q 4 (la 8) - q 4 (lb c)) then (q 4 (la 8) - q 4 (lb c)) else -(q 4 (la 8) - q 4 (lb c)))) * 23298085122481) + ((((c + 1 : Nat) : Int) - 1) * ((dgP (8 + 1) : Nat) : Int)))), (13, zI (bt ((if 0 ≤ (q 1 (la 8) - q 1 (lb c)) then (q 1 (la 8) - q 1 (lb c)) else -(q 1 (la 8) - q 1 (lb c))) ≤ (st 0) ∧ (farZ (q 2 (la 8)) (q 3 (la 8)) (q 2 (lb c)) (q 3 (lb c))) ≤ (st 1) ∧ (if 0 ≤ (q 4 (la 8) - q 4 (lb c)) then (q 4 (la 8) - q 4 (lb c)) else -(q 4 (la 8) - q 4 (lb c))) ≤ (st 2)))), (12, zI ((lb c : Nat) : Int)), (0, zR 11), (1, zR 2), (2, zI (st 0)), (3, zI (st 1)), (4, zI (st 2)), (5, zJ ((dgP (8 + 1) : Nat) : Int)), (7, zI ((8 + 1 : Nat) : Int)), (8, zI ((la 8 : Nat) : Int)), (9, zI ((c + 1 : Nat) : Int))]) G dX3_fillCosts_127 (by decide) rfl ?_
                refine wp_aload_n G 3 dX3_fillCosts_129 rfl ?_
                refine wp_get G 7 cOk3 fX3_36 dX3_fillCosts_130 h11 rfl ?_
                refine wp_iload G 9 dX3_fillCosts_133 rfl ?_
                refine wp_aald (j := 8 + 1) G (by decide) (by decide) dX3_fillCosts_135 h14 rfl (by omega) (by decide) ?_
                show Wp K 14 (Mx K h (fun rr nx' l' => ∃ (C : Nat → Nat → Int), (∀ i, 1 ≤ i → i ≤ rw_ → ∀ j, 1 ≤ j → j ≤ cl → C i j = kst (XJ q st la lb) pt (i) j) ∧ rr = none ∧ nx' = nx ∧ l' = [(15, oL 2 25 (C 0)), (16, oL 2 25 (C 1)), (17, oL 2 25 (C 2)), (18, oL 2 25 (C 3)), (19, oL 2 25 (C 4)), (20, oL 2 25 (C 5)), (21, oL 2 25 (C 6)), (22, oL 2 25 (C 7)), (23, oL 2 25 (C 8)), (24, oL 2 25 (C 9)), (25, oL 2 25 (C 10)), (26, oL 2 25 (C 11)), (27, oL 2 25 (C 12))]) (0, 0)) (0, 0) 136 [(10, zJ ((((if 0 ≤ (q 1 (la 8) - q 1 (lb c)) then (q 1 (la 8) - q 1 (lb c)) else -(q 1 (la 8) - q 1 (lb c))) + (farZ (q 2 (la 8)) (q 3 (la 8)) (q 2 (lb c)) (q 3 (lb c))) + (if 0 ≤ (q 4 (la 8) - q 4 (lb c)) then (q 4 (la 8) - q 4 (lb c)) else -(q 4 (la 8) - q 4 (lb c)))) * 23298085122481) + ((((c + 1 : Nat) : Int) - 1) * ((dgP (8 + 1) : Nat) : Int)))), (13, zI (bt ((if 0 ≤ (q 1 (la 8) - q 1 (lb c)) then (q 1 (la 8) - q 1 (lb c)) else -(q 1 (la 8) - q 1 (lb c))) ≤ (st 0) ∧ (farZ (q 2 (la 8)) (q 3 (la 8)) (q 2 (lb c)) (q 3 (lb c))) ≤ (st 1) ∧ (if 0 ≤ (q 4 (la 8) - q 4 (lb c)) then (q 4 (la 8) - q 4 (lb c)) else -(q 4 (la 8) - q 4 (lb c))) ≤ (st 2)))), (12, zI ((lb c : Nat) : Int)), (0, zR 11), (1, zR 2), (2, zI (st 0)), (3, zI (st 1)), (4, zI (st 2)), (5, zJ ((dgP (8 + 1) : Nat) : Int)), (7, zI ((8 + 1 : Nat) : Int)), (8, zI ((la 8 : Nat) : Int)), (9, zI ((c + 1 : Nat) : Int))] [zR 24] (nx, h, [(15, oL 2 25 (C 0)), (16, oL 2 25 (C 1)), (17, oL 2 25 (C 2)), (18, oL 2 25 (C 3)), (19, oL 2 25 (C 4)), (20, oL 2 25 (C 5)), (21, oL 2 25 (C 6)), (22, oL 2 25 (C 7)), (23, oL 2 25 (C 8)), (24, oL 2 25 Kr), (25, oL 2 25 (C 10)), (26, oL 2 25 (C 11)), (27, oL 2 25 (C 12))])
                refine wp_iload G 11 dX3_fillCosts_136 rfl ?_
                refine wp_lload G 0 dX3_fillCosts_138 rfl ?_
                refine wp_lastE (j := c + 1) (hp2 := (nx, h, [(15, oL 2 25 (C 0)), (16, oL 2 25 (C 1)), (17, oL 2 25 (C 2)), (18, oL 2 25 (C 3)), (19, oL 2 25 (C 4)), (20, oL 2 25 (C 5)), (21, oL 2 25 (C 6)), (22, oL 2 25 (C 7)), (23, oL 2 25 (C 8)), (24, oL 2 25 (fup Kr (c + 1) ((((if 0 ≤ (q 1 (la 8) - q 1 (lb c)) then (q 1 (la 8) - q 1 (lb c)) else -(q 1 (la 8) - q 1 (lb c))) + (farZ (q 2 (la 8)) (q 3 (la 8)) (q 2 (lb c)) (q 3 (lb c))) + (if 0 ≤ (q 4 (la 8) - q 4 (lb c)) then (q 4 (la 8) - q 4 (lb c)) else -(q 4 (la 8) - q 4 (lb c)))) * 23298085122481) + ((((c + 1 : Nat) : Int) - 1) * ((dgP (8 + 1) : Nat) : Int))))), (25, oL 2 25 (C 10)), (26, oL 2 25 (C 11)), (27, oL 2 25 (C 12))])) G dX3_fillCosts_140 rfl rfl (by omega) (by decide) rfl ?_
                refine wp_iinc (lv' := [(9, zI (((c + 1 : Nat) : Int) + 1)), (10, zJ ((((if 0 ≤ (q 1 (la 8) - q 1 (lb c)) then (q 1 (la 8) - q 1 (lb c)) else -(q 1 (la 8) - q 1 (lb c))) + (farZ (q 2 (la 8)) (q 3 (la 8)) (q 2 (lb c)) (q 3 (lb c))) + (if 0 ≤ (q 4 (la 8) - q 4 (lb c)) then (q 4 (la 8) - q 4 (lb c)) else -(q 4 (la 8) - q 4 (lb c)))) * 23298085122481) + ((((c + 1 : Nat) : Int) - 1) * ((dgP (8 + 1) : Nat) : Int)))), (13, zI (bt ((if 0 ≤ (q 1 (la 8) - q 1 (lb c)) then (q 1 (la 8) - q 1 (lb c)) else -(q 1 (la 8) - q 1 (lb c))) ≤ (st 0) ∧ (farZ (q 2 (la 8)) (q 3 (la 8)) (q 2 (lb c)) (q 3 (lb c))) ≤ (st 1) ∧ (if 0 ≤ (q 4 (la 8) - q 4 (lb c)) then (q 4 (la 8) - q 4 (lb c)) else -(q 4 (la 8) - q 4 (lb c))) ≤ (st 2)))), (12, zI ((lb c : Nat) : Int)), (0, zR 11), (1, zR 2), (2, zI (st 0)), (3, zI (st 1)), (4, zI (st 2)), (5, zJ ((dgP (8 + 1) : Nat) : Int)), (7, zI ((8 + 1 : Nat) : Int)), (8, zI ((la 8 : Nat) : Int))]) G 11 dX3_fillCosts_141 rfl (by decide) rfl ?_
                refine wp_goto G dX3_fillCosts_144 ?_
                refine wp_lv [4, 5, 6, 7, 8, 9, 10, 11, 0] rfl ?_
                exact ih39 (c + 1) (fup Kr (c + 1) ((((if 0 ≤ (q 1 (la 8) - q 1 (lb c)) then (q 1 (la 8) - q 1 (lb c)) else -(q 1 (la 8) - q 1 (lb c))) + (farZ (q 2 (la 8)) (q 3 (la 8)) (q 2 (lb c)) (q 3 (lb c))) + (if 0 ≤ (q 4 (la 8) - q 4 (lb c)) then (q 4 (la 8) - q 4 (lb c)) else -(q 4 (la 8) - q 4 (lb c)))) * 23298085122481) + ((((c + 1 : Nat) : Int) - 1) * ((dgP (8 + 1) : Nat) : Int)))) (((c + 1 : Nat) : Int) + 1) (by omega) (by omega) (by omega) (by exact f_put hK (by first | exact kst_a (by omega) | exact kst_s (by omega) (by assumption) | exact kst_n (by omega) (by assumption)))
      · skip
        refine wp_lload G 5 dX3_fillCosts_17 rfl ?_
        refine wp_ldc2 (z := 13) G kX3_88 dX3_fillCosts_19 ?_
        refine wp_ldiv G (by omega) (by omega) (by omega) (by omega) dX3_fillCosts_22 ?_
        rw [show ((((dgP 9 : Nat) : Int) / 13) : Int) = ((dgP (9 + 1) : Nat) : Int) from dg_s (by omega)]
        refine wp_lstore (lv' := [(5, zJ ((dgP (9 + 1) : Nat) : Int)), (0, zR 11), (1, zR 2), (2, zI (st 0)), (3, zI (st 1)), (4, zI (st 2)), (7, zI ((9 + 1 : Nat) : Int))]) G dX3_fillCosts_23 (by decide) rfl ?_
        refine wp_aload_n G 1 dX3_fillCosts_25 rfl ?_
        refine wp_get G 5 cOk3 fX3_27 dX3_fillCosts_26 h11 rfl ?_
        refine wp_iload G 6 dX3_fillCosts_29 rfl ?_
        refine wp_iconst G dX3_fillCosts_31 ?_
        refine wp_isub G dX3_fillCosts_32 ?_
        refine wp_iald (j := 9) G dX3_fillCosts_33 h12 (by omega) (by omega) (by decide) ?_
        rw [(hA 9 (by omega)).1]
        have hak := (hA 9 (by omega)).2
        refine wp_istore (lv' := [(8, zI ((la 9 : Nat) : Int)), (5, zJ ((dgP (9 + 1) : Nat) : Int)), (0, zR 11), (1, zR 2), (2, zI (st 0)), (3, zI (st 1)), (4, zI (st 2)), (7, zI ((9 + 1 : Nat) : Int))]) G dX3_fillCosts_34 (by decide) rfl ?_
        refine wp_iconst G dX3_fillCosts_36 ?_
        refine wp_istore (lv' := [(9, zI 1), (8, zI ((la 9 : Nat) : Int)), (5, zJ ((dgP (9 + 1) : Nat) : Int)), (0, zR 11), (1, zR 2), (2, zI (st 0)), (3, zI (st 1)), (4, zI (st 2)), (7, zI ((9 + 1 : Nat) : Int))]) G dX3_fillCosts_37 (by decide) rfl ?_
        refine wp_lv [3, 4, 5, 6, 7, 2, 8, 1, 0] rfl ?_
        suffices lp39 : ∀ (fu : Nat) (c : Nat) (Kr : Nat → Int) (v9 : Int), cl - c < fu → (v9 = ((c + 1 : Nat) : Int)) → (c ≤ cl) → (∀ j, 1 ≤ j → j ≤ c → Kr j = kst (XJ q st la lb) pt (9 + 1) j) → Wp K 14 (Mx K h (fun rr nx' l' => ∃ (C : Nat → Nat → Int), (∀ i, 1 ≤ i → i ≤ rw_ → ∀ j, 1 ≤ j → j ≤ cl → C i j = kst (XJ q st la lb) pt (i) j) ∧ rr = none ∧ nx' = nx ∧ l' = [(15, oL 2 25 (C 0)), (16, oL 2 25 (C 1)), (17, oL 2 25 (C 2)), (18, oL 2 25 (C 3)), (19, oL 2 25 (C 4)), (20, oL 2 25 (C 5)), (21, oL 2 25 (C 6)), (22, oL 2 25 (C 7)), (23, oL 2 25 (C 8)), (24, oL 2 25 (C 9)), (25, oL 2 25 (C 10)), (26, oL 2 25 (C 11)), (27, oL 2 25 (C 12))]) (0, 0)) (0, 0) 39 [(0, zR 11), (1, zR 2), (2, zI (st 0)), (3, zI (st 1)), (4, zI (st 2)), (5, zJ ((dgP (9 + 1) : Nat) : Int)), (7, zI ((9 + 1 : Nat) : Int)), (8, zI ((la 9 : Nat) : Int)), (9, zI v9)] [] (nx, h, [(15, oL 2 25 (C 0)), (16, oL 2 25 (C 1)), (17, oL 2 25 (C 2)), (18, oL 2 25 (C 3)), (19, oL 2 25 (C 4)), (20, oL 2 25 (C 5)), (21, oL 2 25 (C 6)), (22, oL 2 25 (C 7)), (23, oL 2 25 (C 8)), (24, oL 2 25 (C 9)), (25, oL 2 25 Kr), (26, oL 2 25 (C 11)), (27, oL 2 25 (C 12))]) from lp39 _ 0 (C 10) 1 (Nat.lt_succ_self _) (by omega) (by omega) (by intro j h1 h2; omega)
        intro fu
        induction fu with
        | zero => intro c Kr v9 hm; exact absurd hm (Nat.not_lt_zero _)
        | succ fu ih39 =>
          intro c Kr v9 hm39 e9 hi0 hK
          subst e9
          refine wp_iload G 8 dX3_fillCosts_39 rfl ?_
          refine wp_aload_n G 0 dX3_fillCosts_41 rfl ?_
          refine wp_get G 4 cOk3 fX3_24 dX3_fillCosts_42 h11 rfl ?_
          refine wp_icmp_gt G dX3_fillCosts_45 (by omega) (by omega) (fun kq29 => ?_) (fun kq29 => ?_)
          · skip
            refine wp_iinc (lv' := [(7, zI (((9 + 1 : Nat) : Int) + 1)), (0, zR 11), (1, zR 2), (2, zI (st 0)), (3, zI (st 1)), (4, zI (st 2)), (5, zJ ((dgP (9 + 1) : Nat) : Int)), (8, zI ((la 9 : Nat) : Int)), (9, zI ((c + 1 : Nat) : Int))]) G 6 dX3_fillCosts_147 rfl (by decide) rfl ?_
            refine wp_goto G dX3_fillCosts_150 ?_
            refine wp_lv [1, 2, 3, 4, 5, 6, 0] rfl ?_
            exact ih8 (9 + 1) (fup C (9 + 1) Kr) ((dgP (9 + 1) : Nat) : Int) (((9 + 1 : Nat) : Int) + 1) (by omega) (by rfl) (by omega) (by omega) (by exact r_put hK0 (fun j h1 h2 => hK j h1 (by omega)))
          · skip
            refine wp_ldc2 (z := 23298085122481000) G kX3_90 dX3_fillCosts_48 ?_
            refine wp_ldc2 (z := 12) G kX3_92 dX3_fillCosts_51 ?_
            refine wp_lload G 5 dX3_fillCosts_54 rfl ?_
            refine wp_lmul G dX3_fillCosts_56 ?_
            refine wp_ladd G dX3_fillCosts_57 ?_
            refine wp_lstore (lv' := [(10, zJ (23298085122481000 + (12 * ((dgP (9 + 1) : Nat) : Int)))), (0, zR 11), (1, zR 2), (2, zI (st 0)), (3, zI (st 1)), (4, zI (st 2)), (5, zJ ((dgP (9 + 1) : Nat) : Int)), (7, zI ((9 + 1 : Nat) : Int)), (8, zI ((la 9 : Nat) : Int)), (9, zI ((c + 1 : Nat) : Int))]) G dX3_fillCosts_58 (by decide) rfl ?_
            refine wp_iload G 9 dX3_fillCosts_60 rfl ?_
            refine wp_aload_n G 1 dX3_fillCosts_62 rfl ?_
            refine wp_get G 3 cOk3 fX3_21 dX3_fillCosts_63 h11 rfl ?_
            refine wp_icmp_gt G dX3_fillCosts_66 (by omega) (by omega) (fun kq30 => ?_) (fun kq30 => ?_)
            · skip
              refine wp_aload_n G 1 dX3_fillCosts_129 rfl ?_
              refine wp_get G 7 cOk3 fX3_36 dX3_fillCosts_130 h11 rfl ?_
              refine wp_iload G 7 dX3_fillCosts_133 rfl ?_
              refine wp_aald (j := 9 + 1) G (by decide) (by decide) dX3_fillCosts_135 h14 rfl (by omega) (by decide) ?_
              show Wp K 14 (Mx K h (fun rr nx' l' => ∃ (C : Nat → Nat → Int), (∀ i, 1 ≤ i → i ≤ rw_ → ∀ j, 1 ≤ j → j ≤ cl → C i j = kst (XJ q st la lb) pt (i) j) ∧ rr = none ∧ nx' = nx ∧ l' = [(15, oL 2 25 (C 0)), (16, oL 2 25 (C 1)), (17, oL 2 25 (C 2)), (18, oL 2 25 (C 3)), (19, oL 2 25 (C 4)), (20, oL 2 25 (C 5)), (21, oL 2 25 (C 6)), (22, oL 2 25 (C 7)), (23, oL 2 25 (C 8)), (24, oL 2 25 (C 9)), (25, oL 2 25 (C 10)), (26, oL 2 25 (C 11)), (27, oL 2 25 (C 12))]) (0, 0)) (0, 0) 136 [(10, zJ (23298085122481000 + (12 * ((dgP (9 + 1) : Nat) : Int)))), (0, zR 11), (1, zR 2), (2, zI (st 0)), (3, zI (st 1)), (4, zI (st 2)), (5, zJ ((dgP (9 + 1) : Nat) : Int)), (7, zI ((9 + 1 : Nat) : Int)), (8, zI ((la 9 : Nat) : Int)), (9, zI ((c + 1 : Nat) : Int))] [zR 25] (nx, h, [(15, oL 2 25 (C 0)), (16, oL 2 25 (C 1)), (17, oL 2 25 (C 2)), (18, oL 2 25 (C 3)), (19, oL 2 25 (C 4)), (20, oL 2 25 (C 5)), (21, oL 2 25 (C 6)), (22, oL 2 25 (C 7)), (23, oL 2 25 (C 8)), (24, oL 2 25 (C 9)), (25, oL 2 25 Kr), (26, oL 2 25 (C 11)), (27, oL 2 25 (C 12))])
              refine wp_iload G 9 dX3_fillCosts_136 rfl ?_
              refine wp_lload G 0 dX3_fillCosts_138 rfl ?_
              refine wp_lastE (j := c + 1) (hp2 := (nx, h, [(15, oL 2 25 (C 0)), (16, oL 2 25 (C 1)), (17, oL 2 25 (C 2)), (18, oL 2 25 (C 3)), (19, oL 2 25 (C 4)), (20, oL 2 25 (C 5)), (21, oL 2 25 (C 6)), (22, oL 2 25 (C 7)), (23, oL 2 25 (C 8)), (24, oL 2 25 (C 9)), (25, oL 2 25 (fup Kr (c + 1) (23298085122481000 + (12 * ((dgP (9 + 1) : Nat) : Int))))), (26, oL 2 25 (C 11)), (27, oL 2 25 (C 12))])) G dX3_fillCosts_140 rfl rfl (by omega) (by decide) rfl ?_
              refine wp_iinc (lv' := [(9, zI (((c + 1 : Nat) : Int) + 1)), (10, zJ (23298085122481000 + (12 * ((dgP (9 + 1) : Nat) : Int)))), (0, zR 11), (1, zR 2), (2, zI (st 0)), (3, zI (st 1)), (4, zI (st 2)), (5, zJ ((dgP (9 + 1) : Nat) : Int)), (7, zI ((9 + 1 : Nat) : Int)), (8, zI ((la 9 : Nat) : Int))]) G 9 dX3_fillCosts_141 rfl (by decide) rfl ?_
              refine wp_goto G dX3_fillCosts_144 ?_
              refine wp_lv [2, 3, 4, 5, 6, 7, 8, 9, 0] rfl ?_
              exact ih39 (c + 1) (fup Kr (c + 1) (23298085122481000 + (12 * ((dgP (9 + 1) : Nat) : Int)))) (((c + 1 : Nat) : Int) + 1) (by omega) (by omega) (by omega) (by exact f_put hK (by first | exact kst_a (by omega) | exact kst_s (by omega) (by assumption) | exact kst_n (by omega) (by assumption)))
            · skip
              refine wp_aload_n G 1 dX3_fillCosts_69 rfl ?_
              refine wp_get G 6 cOk3 fX3_31 dX3_fillCosts_70 h11 rfl ?_
              refine wp_iload G 9 dX3_fillCosts_73 rfl ?_
              refine wp_iconst G dX3_fillCosts_75 ?_
              refine wp_isub G dX3_fillCosts_76 ?_
              refine wp_iald (j := c) G dX3_fillCosts_77 h13 (by omega) (by omega) (by decide) ?_
              rw [(hB c (by omega)).1]
              have hbc := (hB c (by omega)).2
              have hmb := mis_b hO hak hbc
              refine wp_istore (lv' := [(12, zI ((lb c : Nat) : Int)), (10, zJ (23298085122481000 + (12 * ((dgP (9 + 1) : Nat) : Int)))), (0, zR 11), (1, zR 2), (2, zI (st 0)), (3, zI (st 1)), (4, zI (st 2)), (5, zJ ((dgP (9 + 1) : Nat) : Int)), (7, zI ((9 + 1 : Nat) : Int)), (8, zI ((la 9 : Nat) : Int)), (9, zI ((c + 1 : Nat) : Int))]) G dX3_fillCosts_78 (by decide) rfl ?_
              refine wp_aload_n G 3 dX3_fillCosts_80 rfl ?_
              refine wp_iload G 9 dX3_fillCosts_81 rfl ?_
              refine wp_iload G 0 dX3_fillCosts_83 rfl ?_
              refine wp_iload_n G 4 dX3_fillCosts_85 rfl ?_
              refine wp_iload_n G 5 dX3_fillCosts_86 rfl ?_
              refine wp_iload G 6 dX3_fillCosts_87 rfl ?_
              refine wp_cSE (as := [zR 2, zI ((la 9 : Nat) : Int), zI ((lb c : Nat) : Int), zI (st 0), zI (st 1), zI (st 2)]) (rest := []) (hp2 := (nx, h, [(15, oL 2 25 (C 0)), (16, oL 2 25 (C 1)), (17, oL 2 25 (C 2)), (18, oL 2 25 (C 3)), (19, oL 2 25 (C 4)), (20, oL 2 25 (C 5)), (21, oL 2 25 (C 6)), (22, oL 2 25 (C 7)), (23, oL 2 25 (C 8)), (24, oL 2 25 (C 9)), (25, oL 2 25 Kr), (26, oL 2 25 (C 11)), (27, oL 2 25 (C 12))])) G mX3_maySame lX3_94 sX3_maySame dX3_fillCosts_89 rfl rfl (Nat.le_of_ble_eq_true rfl) (rmx_ok hR (by decide) (by decide) (by decide) (by decide)) (t_X3_maySame (nx := nx) (i := (la 9)) (j := (lb c)) (dd := (st 0)) (ff := (st 1)) (tt := (st 2)) hQ hO (by omega) (by omega) (by omega) (by omega) (by omega)) rfl ?_
              refine wp_istore (lv' := [(13, zI (bt ((if 0 ≤ (q 1 (la 9) - q 1 (lb c)) then (q 1 (la 9) - q 1 (lb c)) else -(q 1 (la 9) - q 1 (lb c))) ≤ (st 0) ∧ (farZ (q 2 (la 9)) (q 3 (la 9)) (q 2 (lb c)) (q 3 (lb c))) ≤ (st 1) ∧ (if 0 ≤ (q 4 (la 9) - q 4 (lb c)) then (q 4 (la 9) - q 4 (lb c)) else -(q 4 (la 9) - q 4 (lb c))) ≤ (st 2)))), (12, zI ((lb c : Nat) : Int)), (10, zJ (23298085122481000 + (12 * ((dgP (9 + 1) : Nat) : Int)))), (0, zR 11), (1, zR 2), (2, zI (st 0)), (3, zI (st 1)), (4, zI (st 2)), (5, zJ ((dgP (9 + 1) : Nat) : Int)), (7, zI ((9 + 1 : Nat) : Int)), (8, zI ((la 9 : Nat) : Int)), (9, zI ((c + 1 : Nat) : Int))]) G dX3_fillCosts_92 (by decide) rfl ?_
              refine wp_iload G 0 dX3_fillCosts_94 rfl ?_
              refine wp_ifeq_bt G dX3_fillCosts_96 (fun kq31 => ?_) (fun kq31 => ?_)
              · skip
                refine wp_ldc2 (z := 1000000000000000000) G kX3_102 dX3_fillCosts_124 ?_
                refine wp_lstore (lv' := [(10, zJ 1000000000000000000), (13, zI (bt ((if 0 ≤ (q 1 (la 9) - q 1 (lb c)) then (q 1 (la 9) - q 1 (lb c)) else -(q 1 (la 9) - q 1 (lb c))) ≤ (st 0) ∧ (farZ (q 2 (la 9)) (q 3 (la 9)) (q 2 (lb c)) (q 3 (lb c))) ≤ (st 1) ∧ (if 0 ≤ (q 4 (la 9) - q 4 (lb c)) then (q 4 (la 9) - q 4 (lb c)) else -(q 4 (la 9) - q 4 (lb c))) ≤ (st 2)))), (12, zI ((lb c : Nat) : Int)), (0, zR 11), (1, zR 2), (2, zI (st 0)), (3, zI (st 1)), (4, zI (st 2)), (5, zJ ((dgP (9 + 1) : Nat) : Int)), (7, zI ((9 + 1 : Nat) : Int)), (8, zI ((la 9 : Nat) : Int)), (9, zI ((c + 1 : Nat) : Int))]) G dX3_fillCosts_127 (by decide) rfl ?_
                refine wp_aload_n G 3 dX3_fillCosts_129 rfl ?_
                refine wp_get G 7 cOk3 fX3_36 dX3_fillCosts_130 h11 rfl ?_
                refine wp_iload G 9 dX3_fillCosts_133 rfl ?_
                refine wp_aald (j := 9 + 1) G (by decide) (by decide) dX3_fillCosts_135 h14 rfl (by omega) (by decide) ?_
                show Wp K 14 (Mx K h (fun rr nx' l' => ∃ (C : Nat → Nat → Int), (∀ i, 1 ≤ i → i ≤ rw_ → ∀ j, 1 ≤ j → j ≤ cl → C i j = kst (XJ q st la lb) pt (i) j) ∧ rr = none ∧ nx' = nx ∧ l' = [(15, oL 2 25 (C 0)), (16, oL 2 25 (C 1)), (17, oL 2 25 (C 2)), (18, oL 2 25 (C 3)), (19, oL 2 25 (C 4)), (20, oL 2 25 (C 5)), (21, oL 2 25 (C 6)), (22, oL 2 25 (C 7)), (23, oL 2 25 (C 8)), (24, oL 2 25 (C 9)), (25, oL 2 25 (C 10)), (26, oL 2 25 (C 11)), (27, oL 2 25 (C 12))]) (0, 0)) (0, 0) 136 [(10, zJ 1000000000000000000), (13, zI (bt ((if 0 ≤ (q 1 (la 9) - q 1 (lb c)) then (q 1 (la 9) - q 1 (lb c)) else -(q 1 (la 9) - q 1 (lb c))) ≤ (st 0) ∧ (farZ (q 2 (la 9)) (q 3 (la 9)) (q 2 (lb c)) (q 3 (lb c))) ≤ (st 1) ∧ (if 0 ≤ (q 4 (la 9) - q 4 (lb c)) then (q 4 (la 9) - q 4 (lb c)) else -(q 4 (la 9) - q 4 (lb c))) ≤ (st 2)))), (12, zI ((lb c : Nat) : Int)), (0, zR 11), (1, zR 2), (2, zI (st 0)), (3, zI (st 1)), (4, zI (st 2)), (5, zJ ((dgP (9 + 1) : Nat) : Int)), (7, zI ((9 + 1 : Nat) : Int)), (8, zI ((la 9 : Nat) : Int)), (9, zI ((c + 1 : Nat) : Int))] [zR 25] (nx, h, [(15, oL 2 25 (C 0)), (16, oL 2 25 (C 1)), (17, oL 2 25 (C 2)), (18, oL 2 25 (C 3)), (19, oL 2 25 (C 4)), (20, oL 2 25 (C 5)), (21, oL 2 25 (C 6)), (22, oL 2 25 (C 7)), (23, oL 2 25 (C 8)), (24, oL 2 25 (C 9)), (25, oL 2 25 Kr), (26, oL 2 25 (C 11)), (27, oL 2 25 (C 12))])
                refine wp_iload G 11 dX3_fillCosts_136 rfl ?_
                refine wp_lload G 0 dX3_fillCosts_138 rfl ?_
                refine wp_lastE (j := c + 1) (hp2 := (nx, h, [(15, oL 2 25 (C 0)), (16, oL 2 25 (C 1)), (17, oL 2 25 (C 2)), (18, oL 2 25 (C 3)), (19, oL 2 25 (C 4)), (20, oL 2 25 (C 5)), (21, oL 2 25 (C 6)), (22, oL 2 25 (C 7)), (23, oL 2 25 (C 8)), (24, oL 2 25 (C 9)), (25, oL 2 25 (fup Kr (c + 1) 1000000000000000000)), (26, oL 2 25 (C 11)), (27, oL 2 25 (C 12))])) G dX3_fillCosts_140 rfl rfl (by omega) (by decide) rfl ?_
                refine wp_iinc (lv' := [(9, zI (((c + 1 : Nat) : Int) + 1)), (10, zJ 1000000000000000000), (13, zI (bt ((if 0 ≤ (q 1 (la 9) - q 1 (lb c)) then (q 1 (la 9) - q 1 (lb c)) else -(q 1 (la 9) - q 1 (lb c))) ≤ (st 0) ∧ (farZ (q 2 (la 9)) (q 3 (la 9)) (q 2 (lb c)) (q 3 (lb c))) ≤ (st 1) ∧ (if 0 ≤ (q 4 (la 9) - q 4 (lb c)) then (q 4 (la 9) - q 4 (lb c)) else -(q 4 (la 9) - q 4 (lb c))) ≤ (st 2)))), (12, zI ((lb c : Nat) : Int)), (0, zR 11), (1, zR 2), (2, zI (st 0)), (3, zI (st 1)), (4, zI (st 2)), (5, zJ ((dgP (9 + 1) : Nat) : Int)), (7, zI ((9 + 1 : Nat) : Int)), (8, zI ((la 9 : Nat) : Int))]) G 11 dX3_fillCosts_141 rfl (by decide) rfl ?_
                refine wp_goto G dX3_fillCosts_144 ?_
                refine wp_lv [4, 5, 6, 7, 8, 9, 10, 11, 0] rfl ?_
                exact ih39 (c + 1) (fup Kr (c + 1) 1000000000000000000) (((c + 1 : Nat) : Int) + 1) (by omega) (by omega) (by omega) (by exact f_put hK (by first | exact kst_a (by omega) | exact kst_s (by omega) (by assumption) | exact kst_n (by omega) (by assumption)))
              · skip
                refine wp_aload_n G 4 dX3_fillCosts_99 rfl ?_
                refine wp_iload G 10 dX3_fillCosts_100 rfl ?_
                refine wp_iload G 1 dX3_fillCosts_102 rfl ?_
                refine wp_cSE (as := [zR 2, zI ((la 9 : Nat) : Int), zI ((lb c : Nat) : Int)]) (rest := []) (hp2 := (nx, h, [(15, oL 2 25 (C 0)), (16, oL 2 25 (C 1)), (17, oL 2 25 (C 2)), (18, oL 2 25 (C 3)), (19, oL 2 25 (C 4)), (20, oL 2 25 (C 5)), (21, oL 2 25 (C 6)), (22, oL 2 25 (C 7)), (23, oL 2 25 (C 8)), (24, oL 2 25 (C 9)), (25, oL 2 25 Kr), (26, oL 2 25 (C 11)), (27, oL 2 25 (C 12))])) G mX3_missOf lX3_98 sX3_missOf dX3_fillCosts_104 rfl rfl (Nat.le_of_ble_eq_true rfl) (rmx_ok hR (by decide) (by decide) (by decide) (by decide)) (t_X3_missOf (nx := nx) (i := (la 9)) (j := (lb c)) hQ hO (by omega) (by omega)) rfl ?_
                refine wp_i2l G (by omega) dX3_fillCosts_107 ?_
                refine wp_ldc2 (z := 23298085122481) G kX3_86 dX3_fillCosts_108 ?_
                refine wp_lmul G dX3_fillCosts_111 ?_
                refine wp_iload G 11 dX3_fillCosts_112 rfl ?_
                refine wp_iconst G dX3_fillCosts_114 ?_
                refine wp_isub G dX3_fillCosts_115 ?_
                refine wp_i2l G (by omega) dX3_fillCosts_116 ?_
                refine wp_lload G 8 dX3_fillCosts_117 rfl ?_
                refine wp_lmul G dX3_fillCosts_119 ?_
                refine wp_ladd G dX3_fillCosts_120 ?_
                refine wp_goto G dX3_fillCosts_121 ?_
                refine wp_lstore (lv' := [(10, zJ ((((if 0 ≤ (q 1 (la 9) - q 1 (lb c)) then (q 1 (la 9) - q 1 (lb c)) else -(q 1 (la 9) - q 1 (lb c))) + (farZ (q 2 (la 9)) (q 3 (la 9)) (q 2 (lb c)) (q 3 (lb c))) + (if 0 ≤ (q 4 (la 9) - q 4 (lb c)) then (q 4 (la 9) - q 4 (lb c)) else -(q 4 (la 9) - q 4 (lb c)))) * 23298085122481) + ((((c + 1 : Nat) : Int) - 1) * ((dgP (9 + 1) : Nat) : Int)))), (13, zI (bt ((if 0 ≤ (q 1 (la 9) - q 1 (lb c)) then (q 1 (la 9) - q 1 (lb c)) else -(q 1 (la 9) - q 1 (lb c))) ≤ (st 0) ∧ (farZ (q 2 (la 9)) (q 3 (la 9)) (q 2 (lb c)) (q 3 (lb c))) ≤ (st 1) ∧ (if 0 ≤ (q 4 (la 9) - q 4 (lb c)) then (q 4 (la 9) - q 4 (lb c)) else -(q 4 (la 9) - q 4 (lb c))) ≤ (st 2)))), (12, zI ((lb c : Nat) : Int)), (0, zR 11), (1, zR 2), (2, zI (st 0)), (3, zI (st 1)), (4, zI (st 2)), (5, zJ ((dgP (9 + 1) : Nat) : Int)), (7, zI ((9 + 1 : Nat) : Int)), (8, zI ((la 9 : Nat) : Int)), (9, zI ((c + 1 : Nat) : Int))]) G dX3_fillCosts_127 (by decide) rfl ?_
                refine wp_aload_n G 3 dX3_fillCosts_129 rfl ?_
                refine wp_get G 7 cOk3 fX3_36 dX3_fillCosts_130 h11 rfl ?_
                refine wp_iload G 9 dX3_fillCosts_133 rfl ?_
                refine wp_aald (j := 9 + 1) G (by decide) (by decide) dX3_fillCosts_135 h14 rfl (by omega) (by decide) ?_
                show Wp K 14 (Mx K h (fun rr nx' l' => ∃ (C : Nat → Nat → Int), (∀ i, 1 ≤ i → i ≤ rw_ → ∀ j, 1 ≤ j → j ≤ cl → C i j = kst (XJ q st la lb) pt (i) j) ∧ rr = none ∧ nx' = nx ∧ l' = [(15, oL 2 25 (C 0)), (16, oL 2 25 (C 1)), (17, oL 2 25 (C 2)), (18, oL 2 25 (C 3)), (19, oL 2 25 (C 4)), (20, oL 2 25 (C 5)), (21, oL 2 25 (C 6)), (22, oL 2 25 (C 7)), (23, oL 2 25 (C 8)), (24, oL 2 25 (C 9)), (25, oL 2 25 (C 10)), (26, oL 2 25 (C 11)), (27, oL 2 25 (C 12))]) (0, 0)) (0, 0) 136 [(10, zJ ((((if 0 ≤ (q 1 (la 9) - q 1 (lb c)) then (q 1 (la 9) - q 1 (lb c)) else -(q 1 (la 9) - q 1 (lb c))) + (farZ (q 2 (la 9)) (q 3 (la 9)) (q 2 (lb c)) (q 3 (lb c))) + (if 0 ≤ (q 4 (la 9) - q 4 (lb c)) then (q 4 (la 9) - q 4 (lb c)) else -(q 4 (la 9) - q 4 (lb c)))) * 23298085122481) + ((((c + 1 : Nat) : Int) - 1) * ((dgP (9 + 1) : Nat) : Int)))), (13, zI (bt ((if 0 ≤ (q 1 (la 9) - q 1 (lb c)) then (q 1 (la 9) - q 1 (lb c)) else -(q 1 (la 9) - q 1 (lb c))) ≤ (st 0) ∧ (farZ (q 2 (la 9)) (q 3 (la 9)) (q 2 (lb c)) (q 3 (lb c))) ≤ (st 1) ∧ (if 0 ≤ (q 4 (la 9) - q 4 (lb c)) then (q 4 (la 9) - q 4 (lb c)) else -(q 4 (la 9) - q 4 (lb c))) ≤ (st 2)))), (12, zI ((lb c : Nat) : Int)), (0, zR 11), (1, zR 2), (2, zI (st 0)), (3, zI (st 1)), (4, zI (st 2)), (5, zJ ((dgP (9 + 1) : Nat) : Int)), (7, zI ((9 + 1 : Nat) : Int)), (8, zI ((la 9 : Nat) : Int)), (9, zI ((c + 1 : Nat) : Int))] [zR 25] (nx, h, [(15, oL 2 25 (C 0)), (16, oL 2 25 (C 1)), (17, oL 2 25 (C 2)), (18, oL 2 25 (C 3)), (19, oL 2 25 (C 4)), (20, oL 2 25 (C 5)), (21, oL 2 25 (C 6)), (22, oL 2 25 (C 7)), (23, oL 2 25 (C 8)), (24, oL 2 25 (C 9)), (25, oL 2 25 Kr), (26, oL 2 25 (C 11)), (27, oL 2 25 (C 12))])
                refine wp_iload G 11 dX3_fillCosts_136 rfl ?_
                refine wp_lload G 0 dX3_fillCosts_138 rfl ?_
                refine wp_lastE (j := c + 1) (hp2 := (nx, h, [(15, oL 2 25 (C 0)), (16, oL 2 25 (C 1)), (17, oL 2 25 (C 2)), (18, oL 2 25 (C 3)), (19, oL 2 25 (C 4)), (20, oL 2 25 (C 5)), (21, oL 2 25 (C 6)), (22, oL 2 25 (C 7)), (23, oL 2 25 (C 8)), (24, oL 2 25 (C 9)), (25, oL 2 25 (fup Kr (c + 1) ((((if 0 ≤ (q 1 (la 9) - q 1 (lb c)) then (q 1 (la 9) - q 1 (lb c)) else -(q 1 (la 9) - q 1 (lb c))) + (farZ (q 2 (la 9)) (q 3 (la 9)) (q 2 (lb c)) (q 3 (lb c))) + (if 0 ≤ (q 4 (la 9) - q 4 (lb c)) then (q 4 (la 9) - q 4 (lb c)) else -(q 4 (la 9) - q 4 (lb c)))) * 23298085122481) + ((((c + 1 : Nat) : Int) - 1) * ((dgP (9 + 1) : Nat) : Int))))), (26, oL 2 25 (C 11)), (27, oL 2 25 (C 12))])) G dX3_fillCosts_140 rfl rfl (by omega) (by decide) rfl ?_
                refine wp_iinc (lv' := [(9, zI (((c + 1 : Nat) : Int) + 1)), (10, zJ ((((if 0 ≤ (q 1 (la 9) - q 1 (lb c)) then (q 1 (la 9) - q 1 (lb c)) else -(q 1 (la 9) - q 1 (lb c))) + (farZ (q 2 (la 9)) (q 3 (la 9)) (q 2 (lb c)) (q 3 (lb c))) + (if 0 ≤ (q 4 (la 9) - q 4 (lb c)) then (q 4 (la 9) - q 4 (lb c)) else -(q 4 (la 9) - q 4 (lb c)))) * 23298085122481) + ((((c + 1 : Nat) : Int) - 1) * ((dgP (9 + 1) : Nat) : Int)))), (13, zI (bt ((if 0 ≤ (q 1 (la 9) - q 1 (lb c)) then (q 1 (la 9) - q 1 (lb c)) else -(q 1 (la 9) - q 1 (lb c))) ≤ (st 0) ∧ (farZ (q 2 (la 9)) (q 3 (la 9)) (q 2 (lb c)) (q 3 (lb c))) ≤ (st 1) ∧ (if 0 ≤ (q 4 (la 9) - q 4 (lb c)) then (q 4 (la 9) - q 4 (lb c)) else -(q 4 (la 9) - q 4 (lb c))) ≤ (st 2)))), (12, zI ((lb c : Nat) : Int)), (0, zR 11), (1, zR 2), (2, zI (st 0)), (3, zI (st 1)), (4, zI (st 2)), (5, zJ ((dgP (9 + 1) : Nat) : Int)), (7, zI ((9 + 1 : Nat) : Int)), (8, zI ((la 9 : Nat) : Int))]) G 11 dX3_fillCosts_141 rfl (by decide) rfl ?_
                refine wp_goto G dX3_fillCosts_144 ?_
                refine wp_lv [4, 5, 6, 7, 8, 9, 10, 11, 0] rfl ?_
                exact ih39 (c + 1) (fup Kr (c + 1) ((((if 0 ≤ (q 1 (la 9) - q 1 (lb c)) then (q 1 (la 9) - q 1 (lb c)) else -(q 1 (la 9) - q 1 (lb c))) + (farZ (q 2 (la 9)) (q 3 (la 9)) (q 2 (lb c)) (q 3 (lb c))) + (if 0 ≤ (q 4 (la 9) - q 4 (lb c)) then (q 4 (la 9) - q 4 (lb c)) else -(q 4 (la 9) - q 4 (lb c)))) * 23298085122481) + ((((c + 1 : Nat) : Int) - 1) * ((dgP (9 + 1) : Nat) : Int)))) (((c + 1 : Nat) : Int) + 1) (by omega) (by omega) (by omega) (by exact f_put hK (by first | exact kst_a (by omega) | exact kst_s (by omega) (by assumption) | exact kst_n (by omega) (by assumption)))
      · skip
        refine wp_lload G 5 dX3_fillCosts_17 rfl ?_
        refine wp_ldc2 (z := 13) G kX3_88 dX3_fillCosts_19 ?_
        refine wp_ldiv G (by omega) (by omega) (by omega) (by omega) dX3_fillCosts_22 ?_
        rw [show ((((dgP 10 : Nat) : Int) / 13) : Int) = ((dgP (10 + 1) : Nat) : Int) from dg_s (by omega)]
        refine wp_lstore (lv' := [(5, zJ ((dgP (10 + 1) : Nat) : Int)), (0, zR 11), (1, zR 2), (2, zI (st 0)), (3, zI (st 1)), (4, zI (st 2)), (7, zI ((10 + 1 : Nat) : Int))]) G dX3_fillCosts_23 (by decide) rfl ?_
        refine wp_aload_n G 1 dX3_fillCosts_25 rfl ?_
        refine wp_get G 5 cOk3 fX3_27 dX3_fillCosts_26 h11 rfl ?_
        refine wp_iload G 6 dX3_fillCosts_29 rfl ?_
        refine wp_iconst G dX3_fillCosts_31 ?_
        refine wp_isub G dX3_fillCosts_32 ?_
        refine wp_iald (j := 10) G dX3_fillCosts_33 h12 (by omega) (by omega) (by decide) ?_
        rw [(hA 10 (by omega)).1]
        have hak := (hA 10 (by omega)).2
        refine wp_istore (lv' := [(8, zI ((la 10 : Nat) : Int)), (5, zJ ((dgP (10 + 1) : Nat) : Int)), (0, zR 11), (1, zR 2), (2, zI (st 0)), (3, zI (st 1)), (4, zI (st 2)), (7, zI ((10 + 1 : Nat) : Int))]) G dX3_fillCosts_34 (by decide) rfl ?_
        refine wp_iconst G dX3_fillCosts_36 ?_
        refine wp_istore (lv' := [(9, zI 1), (8, zI ((la 10 : Nat) : Int)), (5, zJ ((dgP (10 + 1) : Nat) : Int)), (0, zR 11), (1, zR 2), (2, zI (st 0)), (3, zI (st 1)), (4, zI (st 2)), (7, zI ((10 + 1 : Nat) : Int))]) G dX3_fillCosts_37 (by decide) rfl ?_
        refine wp_lv [3, 4, 5, 6, 7, 2, 8, 1, 0] rfl ?_
        suffices lp39 : ∀ (fu : Nat) (c : Nat) (Kr : Nat → Int) (v9 : Int), cl - c < fu → (v9 = ((c + 1 : Nat) : Int)) → (c ≤ cl) → (∀ j, 1 ≤ j → j ≤ c → Kr j = kst (XJ q st la lb) pt (10 + 1) j) → Wp K 14 (Mx K h (fun rr nx' l' => ∃ (C : Nat → Nat → Int), (∀ i, 1 ≤ i → i ≤ rw_ → ∀ j, 1 ≤ j → j ≤ cl → C i j = kst (XJ q st la lb) pt (i) j) ∧ rr = none ∧ nx' = nx ∧ l' = [(15, oL 2 25 (C 0)), (16, oL 2 25 (C 1)), (17, oL 2 25 (C 2)), (18, oL 2 25 (C 3)), (19, oL 2 25 (C 4)), (20, oL 2 25 (C 5)), (21, oL 2 25 (C 6)), (22, oL 2 25 (C 7)), (23, oL 2 25 (C 8)), (24, oL 2 25 (C 9)), (25, oL 2 25 (C 10)), (26, oL 2 25 (C 11)), (27, oL 2 25 (C 12))]) (0, 0)) (0, 0) 39 [(0, zR 11), (1, zR 2), (2, zI (st 0)), (3, zI (st 1)), (4, zI (st 2)), (5, zJ ((dgP (10 + 1) : Nat) : Int)), (7, zI ((10 + 1 : Nat) : Int)), (8, zI ((la 10 : Nat) : Int)), (9, zI v9)] [] (nx, h, [(15, oL 2 25 (C 0)), (16, oL 2 25 (C 1)), (17, oL 2 25 (C 2)), (18, oL 2 25 (C 3)), (19, oL 2 25 (C 4)), (20, oL 2 25 (C 5)), (21, oL 2 25 (C 6)), (22, oL 2 25 (C 7)), (23, oL 2 25 (C 8)), (24, oL 2 25 (C 9)), (25, oL 2 25 (C 10)), (26, oL 2 25 Kr), (27, oL 2 25 (C 12))]) from lp39 _ 0 (C 11) 1 (Nat.lt_succ_self _) (by omega) (by omega) (by intro j h1 h2; omega)
        intro fu
        induction fu with
        | zero => intro c Kr v9 hm; exact absurd hm (Nat.not_lt_zero _)
        | succ fu ih39 =>
          intro c Kr v9 hm39 e9 hi0 hK
          subst e9
          refine wp_iload G 8 dX3_fillCosts_39 rfl ?_
          refine wp_aload_n G 0 dX3_fillCosts_41 rfl ?_
          refine wp_get G 4 cOk3 fX3_24 dX3_fillCosts_42 h11 rfl ?_
          refine wp_icmp_gt G dX3_fillCosts_45 (by omega) (by omega) (fun kq32 => ?_) (fun kq32 => ?_)
          · skip
            refine wp_iinc (lv' := [(7, zI (((10 + 1 : Nat) : Int) + 1)), (0, zR 11), (1, zR 2), (2, zI (st 0)), (3, zI (st 1)), (4, zI (st 2)), (5, zJ ((dgP (10 + 1) : Nat) : Int)), (8, zI ((la 10 : Nat) : Int)), (9, zI ((c + 1 : Nat) : Int))]) G 6 dX3_fillCosts_147 rfl (by decide) rfl ?_
            refine wp_goto G dX3_fillCosts_150 ?_
            refine wp_lv [1, 2, 3, 4, 5, 6, 0] rfl ?_
            exact ih8 (10 + 1) (fup C (10 + 1) Kr) ((dgP (10 + 1) : Nat) : Int) (((10 + 1 : Nat) : Int) + 1) (by omega) (by rfl) (by omega) (by omega) (by exact r_put hK0 (fun j h1 h2 => hK j h1 (by omega)))
          · skip
            refine wp_ldc2 (z := 23298085122481000) G kX3_90 dX3_fillCosts_48 ?_
            refine wp_ldc2 (z := 12) G kX3_92 dX3_fillCosts_51 ?_
            refine wp_lload G 5 dX3_fillCosts_54 rfl ?_
            refine wp_lmul G dX3_fillCosts_56 ?_
            refine wp_ladd G dX3_fillCosts_57 ?_
            refine wp_lstore (lv' := [(10, zJ (23298085122481000 + (12 * ((dgP (10 + 1) : Nat) : Int)))), (0, zR 11), (1, zR 2), (2, zI (st 0)), (3, zI (st 1)), (4, zI (st 2)), (5, zJ ((dgP (10 + 1) : Nat) : Int)), (7, zI ((10 + 1 : Nat) : Int)), (8, zI ((la 10 : Nat) : Int)), (9, zI ((c + 1 : Nat) : Int))]) G dX3_fillCosts_58 (by decide) rfl ?_
            refine wp_iload G 9 dX3_fillCosts_60 rfl ?_
            refine wp_aload_n G 1 dX3_fillCosts_62 rfl ?_
            refine wp_get G 3 cOk3 fX3_21 dX3_fillCosts_63 h11 rfl ?_
            refine wp_icmp_gt G dX3_fillCosts_66 (by omega) (by omega) (fun kq33 => ?_) (fun kq33 => ?_)
            · skip
              refine wp_aload_n G 1 dX3_fillCosts_129 rfl ?_
              refine wp_get G 7 cOk3 fX3_36 dX3_fillCosts_130 h11 rfl ?_
              refine wp_iload G 7 dX3_fillCosts_133 rfl ?_
              refine wp_aald (j := 10 + 1) G (by decide) (by decide) dX3_fillCosts_135 h14 rfl (by omega) (by decide) ?_
              show Wp K 14 (Mx K h (fun rr nx' l' => ∃ (C : Nat → Nat → Int), (∀ i, 1 ≤ i → i ≤ rw_ → ∀ j, 1 ≤ j → j ≤ cl → C i j = kst (XJ q st la lb) pt (i) j) ∧ rr = none ∧ nx' = nx ∧ l' = [(15, oL 2 25 (C 0)), (16, oL 2 25 (C 1)), (17, oL 2 25 (C 2)), (18, oL 2 25 (C 3)), (19, oL 2 25 (C 4)), (20, oL 2 25 (C 5)), (21, oL 2 25 (C 6)), (22, oL 2 25 (C 7)), (23, oL 2 25 (C 8)), (24, oL 2 25 (C 9)), (25, oL 2 25 (C 10)), (26, oL 2 25 (C 11)), (27, oL 2 25 (C 12))]) (0, 0)) (0, 0) 136 [(10, zJ (23298085122481000 + (12 * ((dgP (10 + 1) : Nat) : Int)))), (0, zR 11), (1, zR 2), (2, zI (st 0)), (3, zI (st 1)), (4, zI (st 2)), (5, zJ ((dgP (10 + 1) : Nat) : Int)), (7, zI ((10 + 1 : Nat) : Int)), (8, zI ((la 10 : Nat) : Int)), (9, zI ((c + 1 : Nat) : Int))] [zR 26] (nx, h, [(15, oL 2 25 (C 0)), (16, oL 2 25 (C 1)), (17, oL 2 25 (C 2)), (18, oL 2 25 (C 3)), (19, oL 2 25 (C 4)), (20, oL 2 25 (C 5)), (21, oL 2 25 (C 6)), (22, oL 2 25 (C 7)), (23, oL 2 25 (C 8)), (24, oL 2 25 (C 9)), (25, oL 2 25 (C 10)), (26, oL 2 25 Kr), (27, oL 2 25 (C 12))])
              refine wp_iload G 9 dX3_fillCosts_136 rfl ?_
              refine wp_lload G 0 dX3_fillCosts_138 rfl ?_
              refine wp_lastE (j := c + 1) (hp2 := (nx, h, [(15, oL 2 25 (C 0)), (16, oL 2 25 (C 1)), (17, oL 2 25 (C 2)), (18, oL 2 25 (C 3)), (19, oL 2 25 (C 4)), (20, oL 2 25 (C 5)), (21, oL 2 25 (C 6)), (22, oL 2 25 (C 7)), (23, oL 2 25 (C 8)), (24, oL 2 25 (C 9)), (25, oL 2 25 (C 10)), (26, oL 2 25 (fup Kr (c + 1) (23298085122481000 + (12 * ((dgP (10 + 1) : Nat) : Int))))), (27, oL 2 25 (C 12))])) G dX3_fillCosts_140 rfl rfl (by omega) (by decide) rfl ?_
              refine wp_iinc (lv' := [(9, zI (((c + 1 : Nat) : Int) + 1)), (10, zJ (23298085122481000 + (12 * ((dgP (10 + 1) : Nat) : Int)))), (0, zR 11), (1, zR 2), (2, zI (st 0)), (3, zI (st 1)), (4, zI (st 2)), (5, zJ ((dgP (10 + 1) : Nat) : Int)), (7, zI ((10 + 1 : Nat) : Int)), (8, zI ((la 10 : Nat) : Int))]) G 9 dX3_fillCosts_141 rfl (by decide) rfl ?_
              refine wp_goto G dX3_fillCosts_144 ?_
              refine wp_lv [2, 3, 4, 5, 6, 7, 8, 9, 0] rfl ?_
              exact ih39 (c + 1) (fup Kr (c + 1) (23298085122481000 + (12 * ((dgP (10 + 1) : Nat) : Int)))) (((c + 1 : Nat) : Int) + 1) (by omega) (by omega) (by omega) (by exact f_put hK (by first | exact kst_a (by omega) | exact kst_s (by omega) (by assumption) | exact kst_n (by omega) (by assumption)))
            · skip
              refine wp_aload_n G 1 dX3_fillCosts_69 rfl ?_
              refine wp_get G 6 cOk3 fX3_31 dX3_fillCosts_70 h11 rfl ?_
              refine wp_iload G 9 dX3_fillCosts_73 rfl ?_
              refine wp_iconst G dX3_fillCosts_75 ?_
              refine wp_isub G dX3_fillCosts_76 ?_
              refine wp_iald (j := c) G dX3_fillCosts_77 h13 (by omega) (by omega) (by decide) ?_
              rw [(hB c (by omega)).1]
              have hbc := (hB c (by omega)).2
              have hmb := mis_b hO hak hbc
              refine wp_istore (lv' := [(12, zI ((lb c : Nat) : Int)), (10, zJ (23298085122481000 + (12 * ((dgP (10 + 1) : Nat) : Int)))), (0, zR 11), (1, zR 2), (2, zI (st 0)), (3, zI (st 1)), (4, zI (st 2)), (5, zJ ((dgP (10 + 1) : Nat) : Int)), (7, zI ((10 + 1 : Nat) : Int)), (8, zI ((la 10 : Nat) : Int)), (9, zI ((c + 1 : Nat) : Int))]) G dX3_fillCosts_78 (by decide) rfl ?_
              refine wp_aload_n G 3 dX3_fillCosts_80 rfl ?_
              refine wp_iload G 9 dX3_fillCosts_81 rfl ?_
              refine wp_iload G 0 dX3_fillCosts_83 rfl ?_
              refine wp_iload_n G 4 dX3_fillCosts_85 rfl ?_
              refine wp_iload_n G 5 dX3_fillCosts_86 rfl ?_
              refine wp_iload G 6 dX3_fillCosts_87 rfl ?_
              refine wp_cSE (as := [zR 2, zI ((la 10 : Nat) : Int), zI ((lb c : Nat) : Int), zI (st 0), zI (st 1), zI (st 2)]) (rest := []) (hp2 := (nx, h, [(15, oL 2 25 (C 0)), (16, oL 2 25 (C 1)), (17, oL 2 25 (C 2)), (18, oL 2 25 (C 3)), (19, oL 2 25 (C 4)), (20, oL 2 25 (C 5)), (21, oL 2 25 (C 6)), (22, oL 2 25 (C 7)), (23, oL 2 25 (C 8)), (24, oL 2 25 (C 9)), (25, oL 2 25 (C 10)), (26, oL 2 25 Kr), (27, oL 2 25 (C 12))])) G mX3_maySame lX3_94 sX3_maySame dX3_fillCosts_89 rfl rfl (Nat.le_of_ble_eq_true rfl) (rmx_ok hR (by decide) (by decide) (by decide) (by decide)) (t_X3_maySame (nx := nx) (i := (la 10)) (j := (lb c)) (dd := (st 0)) (ff := (st 1)) (tt := (st 2)) hQ hO (by omega) (by omega) (by omega) (by omega) (by omega)) rfl ?_
              refine wp_istore (lv' := [(13, zI (bt ((if 0 ≤ (q 1 (la 10) - q 1 (lb c)) then (q 1 (la 10) - q 1 (lb c)) else -(q 1 (la 10) - q 1 (lb c))) ≤ (st 0) ∧ (farZ (q 2 (la 10)) (q 3 (la 10)) (q 2 (lb c)) (q 3 (lb c))) ≤ (st 1) ∧ (if 0 ≤ (q 4 (la 10) - q 4 (lb c)) then (q 4 (la 10) - q 4 (lb c)) else -(q 4 (la 10) - q 4 (lb c))) ≤ (st 2)))), (12, zI ((lb c : Nat) : Int)), (10, zJ (23298085122481000 + (12 * ((dgP (10 + 1) : Nat) : Int)))), (0, zR 11), (1, zR 2), (2, zI (st 0)), (3, zI (st 1)), (4, zI (st 2)), (5, zJ ((dgP (10 + 1) : Nat) : Int)), (7, zI ((10 + 1 : Nat) : Int)), (8, zI ((la 10 : Nat) : Int)), (9, zI ((c + 1 : Nat) : Int))]) G dX3_fillCosts_92 (by decide) rfl ?_
              refine wp_iload G 0 dX3_fillCosts_94 rfl ?_
              refine wp_ifeq_bt G dX3_fillCosts_96 (fun kq34 => ?_) (fun kq34 => ?_)
              · skip
                refine wp_ldc2 (z := 1000000000000000000) G kX3_102 dX3_fillCosts_124 ?_
                refine wp_lstore (lv' := [(10, zJ 1000000000000000000), (13, zI (bt ((if 0 ≤ (q 1 (la 10) - q 1 (lb c)) then (q 1 (la 10) - q 1 (lb c)) else -(q 1 (la 10) - q 1 (lb c))) ≤ (st 0) ∧ (farZ (q 2 (la 10)) (q 3 (la 10)) (q 2 (lb c)) (q 3 (lb c))) ≤ (st 1) ∧ (if 0 ≤ (q 4 (la 10) - q 4 (lb c)) then (q 4 (la 10) - q 4 (lb c)) else -(q 4 (la 10) - q 4 (lb c))) ≤ (st 2)))), (12, zI ((lb c : Nat) : Int)), (0, zR 11), (1, zR 2), (2, zI (st 0)), (3, zI (st 1)), (4, zI (st 2)), (5, zJ ((dgP (10 + 1) : Nat) : Int)), (7, zI ((10 + 1 : Nat) : Int)), (8, zI ((la 10 : Nat) : Int)), (9, zI ((c + 1 : Nat) : Int))]) G dX3_fillCosts_127 (by decide) rfl ?_
                refine wp_aload_n G 3 dX3_fillCosts_129 rfl ?_
                refine wp_get G 7 cOk3 fX3_36 dX3_fillCosts_130 h11 rfl ?_
                refine wp_iload G 9 dX3_fillCosts_133 rfl ?_
                refine wp_aald (j := 10 + 1) G (by decide) (by decide) dX3_fillCosts_135 h14 rfl (by omega) (by decide) ?_
                show Wp K 14 (Mx K h (fun rr nx' l' => ∃ (C : Nat → Nat → Int), (∀ i, 1 ≤ i → i ≤ rw_ → ∀ j, 1 ≤ j → j ≤ cl → C i j = kst (XJ q st la lb) pt (i) j) ∧ rr = none ∧ nx' = nx ∧ l' = [(15, oL 2 25 (C 0)), (16, oL 2 25 (C 1)), (17, oL 2 25 (C 2)), (18, oL 2 25 (C 3)), (19, oL 2 25 (C 4)), (20, oL 2 25 (C 5)), (21, oL 2 25 (C 6)), (22, oL 2 25 (C 7)), (23, oL 2 25 (C 8)), (24, oL 2 25 (C 9)), (25, oL 2 25 (C 10)), (26, oL 2 25 (C 11)), (27, oL 2 25 (C 12))]) (0, 0)) (0, 0) 136 [(10, zJ 1000000000000000000), (13, zI (bt ((if 0 ≤ (q 1 (la 10) - q 1 (lb c)) then (q 1 (la 10) - q 1 (lb c)) else -(q 1 (la 10) - q 1 (lb c))) ≤ (st 0) ∧ (farZ (q 2 (la 10)) (q 3 (la 10)) (q 2 (lb c)) (q 3 (lb c))) ≤ (st 1) ∧ (if 0 ≤ (q 4 (la 10) - q 4 (lb c)) then (q 4 (la 10) - q 4 (lb c)) else -(q 4 (la 10) - q 4 (lb c))) ≤ (st 2)))), (12, zI ((lb c : Nat) : Int)), (0, zR 11), (1, zR 2), (2, zI (st 0)), (3, zI (st 1)), (4, zI (st 2)), (5, zJ ((dgP (10 + 1) : Nat) : Int)), (7, zI ((10 + 1 : Nat) : Int)), (8, zI ((la 10 : Nat) : Int)), (9, zI ((c + 1 : Nat) : Int))] [zR 26] (nx, h, [(15, oL 2 25 (C 0)), (16, oL 2 25 (C 1)), (17, oL 2 25 (C 2)), (18, oL 2 25 (C 3)), (19, oL 2 25 (C 4)), (20, oL 2 25 (C 5)), (21, oL 2 25 (C 6)), (22, oL 2 25 (C 7)), (23, oL 2 25 (C 8)), (24, oL 2 25 (C 9)), (25, oL 2 25 (C 10)), (26, oL 2 25 Kr), (27, oL 2 25 (C 12))])
                refine wp_iload G 11 dX3_fillCosts_136 rfl ?_
                refine wp_lload G 0 dX3_fillCosts_138 rfl ?_
                refine wp_lastE (j := c + 1) (hp2 := (nx, h, [(15, oL 2 25 (C 0)), (16, oL 2 25 (C 1)), (17, oL 2 25 (C 2)), (18, oL 2 25 (C 3)), (19, oL 2 25 (C 4)), (20, oL 2 25 (C 5)), (21, oL 2 25 (C 6)), (22, oL 2 25 (C 7)), (23, oL 2 25 (C 8)), (24, oL 2 25 (C 9)), (25, oL 2 25 (C 10)), (26, oL 2 25 (fup Kr (c + 1) 1000000000000000000)), (27, oL 2 25 (C 12))])) G dX3_fillCosts_140 rfl rfl (by omega) (by decide) rfl ?_
                refine wp_iinc (lv' := [(9, zI (((c + 1 : Nat) : Int) + 1)), (10, zJ 1000000000000000000), (13, zI (bt ((if 0 ≤ (q 1 (la 10) - q 1 (lb c)) then (q 1 (la 10) - q 1 (lb c)) else -(q 1 (la 10) - q 1 (lb c))) ≤ (st 0) ∧ (farZ (q 2 (la 10)) (q 3 (la 10)) (q 2 (lb c)) (q 3 (lb c))) ≤ (st 1) ∧ (if 0 ≤ (q 4 (la 10) - q 4 (lb c)) then (q 4 (la 10) - q 4 (lb c)) else -(q 4 (la 10) - q 4 (lb c))) ≤ (st 2)))), (12, zI ((lb c : Nat) : Int)), (0, zR 11), (1, zR 2), (2, zI (st 0)), (3, zI (st 1)), (4, zI (st 2)), (5, zJ ((dgP (10 + 1) : Nat) : Int)), (7, zI ((10 + 1 : Nat) : Int)), (8, zI ((la 10 : Nat) : Int))]) G 11 dX3_fillCosts_141 rfl (by decide) rfl ?_
                refine wp_goto G dX3_fillCosts_144 ?_
                refine wp_lv [4, 5, 6, 7, 8, 9, 10, 11, 0] rfl ?_
                exact ih39 (c + 1) (fup Kr (c + 1) 1000000000000000000) (((c + 1 : Nat) : Int) + 1) (by omega) (by omega) (by omega) (by exact f_put hK (by first | exact kst_a (by omega) | exact kst_s (by omega) (by assumption) | exact kst_n (by omega) (by assumption)))
              · skip
                refine wp_aload_n G 4 dX3_fillCosts_99 rfl ?_
                refine wp_iload G 10 dX3_fillCosts_100 rfl ?_
                refine wp_iload G 1 dX3_fillCosts_102 rfl ?_
                refine wp_cSE (as := [zR 2, zI ((la 10 : Nat) : Int), zI ((lb c : Nat) : Int)]) (rest := []) (hp2 := (nx, h, [(15, oL 2 25 (C 0)), (16, oL 2 25 (C 1)), (17, oL 2 25 (C 2)), (18, oL 2 25 (C 3)), (19, oL 2 25 (C 4)), (20, oL 2 25 (C 5)), (21, oL 2 25 (C 6)), (22, oL 2 25 (C 7)), (23, oL 2 25 (C 8)), (24, oL 2 25 (C 9)), (25, oL 2 25 (C 10)), (26, oL 2 25 Kr), (27, oL 2 25 (C 12))])) G mX3_missOf lX3_98 sX3_missOf dX3_fillCosts_104 rfl rfl (Nat.le_of_ble_eq_true rfl) (rmx_ok hR (by decide) (by decide) (by decide) (by decide)) (t_X3_missOf (nx := nx) (i := (la 10)) (j := (lb c)) hQ hO (by omega) (by omega)) rfl ?_
                refine wp_i2l G (by omega) dX3_fillCosts_107 ?_
                refine wp_ldc2 (z := 23298085122481) G kX3_86 dX3_fillCosts_108 ?_
                refine wp_lmul G dX3_fillCosts_111 ?_
                refine wp_iload G 11 dX3_fillCosts_112 rfl ?_
                refine wp_iconst G dX3_fillCosts_114 ?_
                refine wp_isub G dX3_fillCosts_115 ?_
                refine wp_i2l G (by omega) dX3_fillCosts_116 ?_
                refine wp_lload G 8 dX3_fillCosts_117 rfl ?_
                refine wp_lmul G dX3_fillCosts_119 ?_
                refine wp_ladd G dX3_fillCosts_120 ?_
                refine wp_goto G dX3_fillCosts_121 ?_
                refine wp_lstore (lv' := [(10, zJ ((((if 0 ≤ (q 1 (la 10) - q 1 (lb c)) then (q 1 (la 10) - q 1 (lb c)) else -(q 1 (la 10) - q 1 (lb c))) + (farZ (q 2 (la 10)) (q 3 (la 10)) (q 2 (lb c)) (q 3 (lb c))) + (if 0 ≤ (q 4 (la 10) - q 4 (lb c)) then (q 4 (la 10) - q 4 (lb c)) else -(q 4 (la 10) - q 4 (lb c)))) * 23298085122481) + ((((c + 1 : Nat) : Int) - 1) * ((dgP (10 + 1) : Nat) : Int)))), (13, zI (bt ((if 0 ≤ (q 1 (la 10) - q 1 (lb c)) then (q 1 (la 10) - q 1 (lb c)) else -(q 1 (la 10) - q 1 (lb c))) ≤ (st 0) ∧ (farZ (q 2 (la 10)) (q 3 (la 10)) (q 2 (lb c)) (q 3 (lb c))) ≤ (st 1) ∧ (if 0 ≤ (q 4 (la 10) - q 4 (lb c)) then (q 4 (la 10) - q 4 (lb c)) else -(q 4 (la 10) - q 4 (lb c))) ≤ (st 2)))), (12, zI ((lb c : Nat) : Int)), (0, zR 11), (1, zR 2), (2, zI (st 0)), (3, zI (st 1)), (4, zI (st 2)), (5, zJ ((dgP (10 + 1) : Nat) : Int)), (7, zI ((10 + 1 : Nat) : Int)), (8, zI ((la 10 : Nat) : Int)), (9, zI ((c + 1 : Nat) : Int))]) G dX3_fillCosts_127 (by decide) rfl ?_
                refine wp_aload_n G 3 dX3_fillCosts_129 rfl ?_
                refine wp_get G 7 cOk3 fX3_36 dX3_fillCosts_130 h11 rfl ?_
                refine wp_iload G 9 dX3_fillCosts_133 rfl ?_
                refine wp_aald (j := 10 + 1) G (by decide) (by decide) dX3_fillCosts_135 h14 rfl (by omega) (by decide) ?_
                show Wp K 14 (Mx K h (fun rr nx' l' => ∃ (C : Nat → Nat → Int), (∀ i, 1 ≤ i → i ≤ rw_ → ∀ j, 1 ≤ j → j ≤ cl → C i j = kst (XJ q st la lb) pt (i) j) ∧ rr = none ∧ nx' = nx ∧ l' = [(15, oL 2 25 (C 0)), (16, oL 2 25 (C 1)), (17, oL 2 25 (C 2)), (18, oL 2 25 (C 3)), (19, oL 2 25 (C 4)), (20, oL 2 25 (C 5)), (21, oL 2 25 (C 6)), (22, oL 2 25 (C 7)), (23, oL 2 25 (C 8)), (24, oL 2 25 (C 9)), (25, oL 2 25 (C 10)), (26, oL 2 25 (C 11)), (27, oL 2 25 (C 12))]) (0, 0)) (0, 0) 136 [(10, zJ ((((if 0 ≤ (q 1 (la 10) - q 1 (lb c)) then (q 1 (la 10) - q 1 (lb c)) else -(q 1 (la 10) - q 1 (lb c))) + (farZ (q 2 (la 10)) (q 3 (la 10)) (q 2 (lb c)) (q 3 (lb c))) + (if 0 ≤ (q 4 (la 10) - q 4 (lb c)) then (q 4 (la 10) - q 4 (lb c)) else -(q 4 (la 10) - q 4 (lb c)))) * 23298085122481) + ((((c + 1 : Nat) : Int) - 1) * ((dgP (10 + 1) : Nat) : Int)))), (13, zI (bt ((if 0 ≤ (q 1 (la 10) - q 1 (lb c)) then (q 1 (la 10) - q 1 (lb c)) else -(q 1 (la 10) - q 1 (lb c))) ≤ (st 0) ∧ (farZ (q 2 (la 10)) (q 3 (la 10)) (q 2 (lb c)) (q 3 (lb c))) ≤ (st 1) ∧ (if 0 ≤ (q 4 (la 10) - q 4 (lb c)) then (q 4 (la 10) - q 4 (lb c)) else -(q 4 (la 10) - q 4 (lb c))) ≤ (st 2)))), (12, zI ((lb c : Nat) : Int)), (0, zR 11), (1, zR 2), (2, zI (st 0)), (3, zI (st 1)), (4, zI (st 2)), (5, zJ ((dgP (10 + 1) : Nat) : Int)), (7, zI ((10 + 1 : Nat) : Int)), (8, zI ((la 10 : Nat) : Int)), (9, zI ((c + 1 : Nat) : Int))] [zR 26] (nx, h, [(15, oL 2 25 (C 0)), (16, oL 2 25 (C 1)), (17, oL 2 25 (C 2)), (18, oL 2 25 (C 3)), (19, oL 2 25 (C 4)), (20, oL 2 25 (C 5)), (21, oL 2 25 (C 6)), (22, oL 2 25 (C 7)), (23, oL 2 25 (C 8)), (24, oL 2 25 (C 9)), (25, oL 2 25 (C 10)), (26, oL 2 25 Kr), (27, oL 2 25 (C 12))])
                refine wp_iload G 11 dX3_fillCosts_136 rfl ?_
                refine wp_lload G 0 dX3_fillCosts_138 rfl ?_
                refine wp_lastE (j := c + 1) (hp2 := (nx, h, [(15, oL 2 25 (C 0)), (16, oL 2 25 (C 1)), (17, oL 2 25 (C 2)), (18, oL 2 25 (C 3)), (19, oL 2 25 (C 4)), (20, oL 2 25 (C 5)), (21, oL 2 25 (C 6)), (22, oL 2 25 (C 7)), (23, oL 2 25 (C 8)), (24, oL 2 25 (C 9)), (25, oL 2 25 (C 10)), (26, oL 2 25 (fup Kr (c + 1) ((((if 0 ≤ (q 1 (la 10) - q 1 (lb c)) then (q 1 (la 10) - q 1 (lb c)) else -(q 1 (la 10) - q 1 (lb c))) + (farZ (q 2 (la 10)) (q 3 (la 10)) (q 2 (lb c)) (q 3 (lb c))) + (if 0 ≤ (q 4 (la 10) - q 4 (lb c)) then (q 4 (la 10) - q 4 (lb c)) else -(q 4 (la 10) - q 4 (lb c)))) * 23298085122481) + ((((c + 1 : Nat) : Int) - 1) * ((dgP (10 + 1) : Nat) : Int))))), (27, oL 2 25 (C 12))])) G dX3_fillCosts_140 rfl rfl (by omega) (by decide) rfl ?_
                refine wp_iinc (lv' := [(9, zI (((c + 1 : Nat) : Int) + 1)), (10, zJ ((((if 0 ≤ (q 1 (la 10) - q 1 (lb c)) then (q 1 (la 10) - q 1 (lb c)) else -(q 1 (la 10) - q 1 (lb c))) + (farZ (q 2 (la 10)) (q 3 (la 10)) (q 2 (lb c)) (q 3 (lb c))) + (if 0 ≤ (q 4 (la 10) - q 4 (lb c)) then (q 4 (la 10) - q 4 (lb c)) else -(q 4 (la 10) - q 4 (lb c)))) * 23298085122481) + ((((c + 1 : Nat) : Int) - 1) * ((dgP (10 + 1) : Nat) : Int)))), (13, zI (bt ((if 0 ≤ (q 1 (la 10) - q 1 (lb c)) then (q 1 (la 10) - q 1 (lb c)) else -(q 1 (la 10) - q 1 (lb c))) ≤ (st 0) ∧ (farZ (q 2 (la 10)) (q 3 (la 10)) (q 2 (lb c)) (q 3 (lb c))) ≤ (st 1) ∧ (if 0 ≤ (q 4 (la 10) - q 4 (lb c)) then (q 4 (la 10) - q 4 (lb c)) else -(q 4 (la 10) - q 4 (lb c))) ≤ (st 2)))), (12, zI ((lb c : Nat) : Int)), (0, zR 11), (1, zR 2), (2, zI (st 0)), (3, zI (st 1)), (4, zI (st 2)), (5, zJ ((dgP (10 + 1) : Nat) : Int)), (7, zI ((10 + 1 : Nat) : Int)), (8, zI ((la 10 : Nat) : Int))]) G 11 dX3_fillCosts_141 rfl (by decide) rfl ?_
                refine wp_goto G dX3_fillCosts_144 ?_
                refine wp_lv [4, 5, 6, 7, 8, 9, 10, 11, 0] rfl ?_
                exact ih39 (c + 1) (fup Kr (c + 1) ((((if 0 ≤ (q 1 (la 10) - q 1 (lb c)) then (q 1 (la 10) - q 1 (lb c)) else -(q 1 (la 10) - q 1 (lb c))) + (farZ (q 2 (la 10)) (q 3 (la 10)) (q 2 (lb c)) (q 3 (lb c))) + (if 0 ≤ (q 4 (la 10) - q 4 (lb c)) then (q 4 (la 10) - q 4 (lb c)) else -(q 4 (la 10) - q 4 (lb c)))) * 23298085122481) + ((((c + 1 : Nat) : Int) - 1) * ((dgP (10 + 1) : Nat) : Int)))) (((c + 1 : Nat) : Int) + 1) (by omega) (by omega) (by omega) (by exact f_put hK (by first | exact kst_a (by omega) | exact kst_s (by omega) (by assumption) | exact kst_n (by omega) (by assumption)))
      · skip
        refine wp_lload G 5 dX3_fillCosts_17 rfl ?_
        refine wp_ldc2 (z := 13) G kX3_88 dX3_fillCosts_19 ?_
        refine wp_ldiv G (by omega) (by omega) (by omega) (by omega) dX3_fillCosts_22 ?_
        rw [show ((((dgP 11 : Nat) : Int) / 13) : Int) = ((dgP (11 + 1) : Nat) : Int) from dg_s (by omega)]
        refine wp_lstore (lv' := [(5, zJ ((dgP (11 + 1) : Nat) : Int)), (0, zR 11), (1, zR 2), (2, zI (st 0)), (3, zI (st 1)), (4, zI (st 2)), (7, zI ((11 + 1 : Nat) : Int))]) G dX3_fillCosts_23 (by decide) rfl ?_
        refine wp_aload_n G 1 dX3_fillCosts_25 rfl ?_
        refine wp_get G 5 cOk3 fX3_27 dX3_fillCosts_26 h11 rfl ?_
        refine wp_iload G 6 dX3_fillCosts_29 rfl ?_
        refine wp_iconst G dX3_fillCosts_31 ?_
        refine wp_isub G dX3_fillCosts_32 ?_
        refine wp_iald (j := 11) G dX3_fillCosts_33 h12 (by omega) (by omega) (by decide) ?_
        rw [(hA 11 (by omega)).1]
        have hak := (hA 11 (by omega)).2
        refine wp_istore (lv' := [(8, zI ((la 11 : Nat) : Int)), (5, zJ ((dgP (11 + 1) : Nat) : Int)), (0, zR 11), (1, zR 2), (2, zI (st 0)), (3, zI (st 1)), (4, zI (st 2)), (7, zI ((11 + 1 : Nat) : Int))]) G dX3_fillCosts_34 (by decide) rfl ?_
        refine wp_iconst G dX3_fillCosts_36 ?_
        refine wp_istore (lv' := [(9, zI 1), (8, zI ((la 11 : Nat) : Int)), (5, zJ ((dgP (11 + 1) : Nat) : Int)), (0, zR 11), (1, zR 2), (2, zI (st 0)), (3, zI (st 1)), (4, zI (st 2)), (7, zI ((11 + 1 : Nat) : Int))]) G dX3_fillCosts_37 (by decide) rfl ?_
        refine wp_lv [3, 4, 5, 6, 7, 2, 8, 1, 0] rfl ?_
        suffices lp39 : ∀ (fu : Nat) (c : Nat) (Kr : Nat → Int) (v9 : Int), cl - c < fu → (v9 = ((c + 1 : Nat) : Int)) → (c ≤ cl) → (∀ j, 1 ≤ j → j ≤ c → Kr j = kst (XJ q st la lb) pt (11 + 1) j) → Wp K 14 (Mx K h (fun rr nx' l' => ∃ (C : Nat → Nat → Int), (∀ i, 1 ≤ i → i ≤ rw_ → ∀ j, 1 ≤ j → j ≤ cl → C i j = kst (XJ q st la lb) pt (i) j) ∧ rr = none ∧ nx' = nx ∧ l' = [(15, oL 2 25 (C 0)), (16, oL 2 25 (C 1)), (17, oL 2 25 (C 2)), (18, oL 2 25 (C 3)), (19, oL 2 25 (C 4)), (20, oL 2 25 (C 5)), (21, oL 2 25 (C 6)), (22, oL 2 25 (C 7)), (23, oL 2 25 (C 8)), (24, oL 2 25 (C 9)), (25, oL 2 25 (C 10)), (26, oL 2 25 (C 11)), (27, oL 2 25 (C 12))]) (0, 0)) (0, 0) 39 [(0, zR 11), (1, zR 2), (2, zI (st 0)), (3, zI (st 1)), (4, zI (st 2)), (5, zJ ((dgP (11 + 1) : Nat) : Int)), (7, zI ((11 + 1 : Nat) : Int)), (8, zI ((la 11 : Nat) : Int)), (9, zI v9)] [] (nx, h, [(15, oL 2 25 (C 0)), (16, oL 2 25 (C 1)), (17, oL 2 25 (C 2)), (18, oL 2 25 (C 3)), (19, oL 2 25 (C 4)), (20, oL 2 25 (C 5)), (21, oL 2 25 (C 6)), (22, oL 2 25 (C 7)), (23, oL 2 25 (C 8)), (24, oL 2 25 (C 9)), (25, oL 2 25 (C 10)), (26, oL 2 25 (C 11)), (27, oL 2 25 Kr)]) from lp39 _ 0 (C 12) 1 (Nat.lt_succ_self _) (by omega) (by omega) (by intro j h1 h2; omega)
        intro fu
        induction fu with
        | zero => intro c Kr v9 hm; exact absurd hm (Nat.not_lt_zero _)
        | succ fu ih39 =>
          intro c Kr v9 hm39 e9 hi0 hK
          subst e9
          refine wp_iload G 8 dX3_fillCosts_39 rfl ?_
          refine wp_aload_n G 0 dX3_fillCosts_41 rfl ?_
          refine wp_get G 4 cOk3 fX3_24 dX3_fillCosts_42 h11 rfl ?_
          refine wp_icmp_gt G dX3_fillCosts_45 (by omega) (by omega) (fun kq35 => ?_) (fun kq35 => ?_)
          · skip
            refine wp_iinc (lv' := [(7, zI (((11 + 1 : Nat) : Int) + 1)), (0, zR 11), (1, zR 2), (2, zI (st 0)), (3, zI (st 1)), (4, zI (st 2)), (5, zJ ((dgP (11 + 1) : Nat) : Int)), (8, zI ((la 11 : Nat) : Int)), (9, zI ((c + 1 : Nat) : Int))]) G 6 dX3_fillCosts_147 rfl (by decide) rfl ?_
            refine wp_goto G dX3_fillCosts_150 ?_
            refine wp_lv [1, 2, 3, 4, 5, 6, 0] rfl ?_
            exact ih8 (11 + 1) (fup C (11 + 1) Kr) ((dgP (11 + 1) : Nat) : Int) (((11 + 1 : Nat) : Int) + 1) (by omega) (by rfl) (by omega) (by omega) (by exact r_put hK0 (fun j h1 h2 => hK j h1 (by omega)))
          · skip
            refine wp_ldc2 (z := 23298085122481000) G kX3_90 dX3_fillCosts_48 ?_
            refine wp_ldc2 (z := 12) G kX3_92 dX3_fillCosts_51 ?_
            refine wp_lload G 5 dX3_fillCosts_54 rfl ?_
            refine wp_lmul G dX3_fillCosts_56 ?_
            refine wp_ladd G dX3_fillCosts_57 ?_
            refine wp_lstore (lv' := [(10, zJ (23298085122481000 + (12 * ((dgP (11 + 1) : Nat) : Int)))), (0, zR 11), (1, zR 2), (2, zI (st 0)), (3, zI (st 1)), (4, zI (st 2)), (5, zJ ((dgP (11 + 1) : Nat) : Int)), (7, zI ((11 + 1 : Nat) : Int)), (8, zI ((la 11 : Nat) : Int)), (9, zI ((c + 1 : Nat) : Int))]) G dX3_fillCosts_58 (by decide) rfl ?_
            refine wp_iload G 9 dX3_fillCosts_60 rfl ?_
            refine wp_aload_n G 1 dX3_fillCosts_62 rfl ?_
            refine wp_get G 3 cOk3 fX3_21 dX3_fillCosts_63 h11 rfl ?_
            refine wp_icmp_gt G dX3_fillCosts_66 (by omega) (by omega) (fun kq36 => ?_) (fun kq36 => ?_)
            · skip
              refine wp_aload_n G 1 dX3_fillCosts_129 rfl ?_
              refine wp_get G 7 cOk3 fX3_36 dX3_fillCosts_130 h11 rfl ?_
              refine wp_iload G 7 dX3_fillCosts_133 rfl ?_
              refine wp_aald (j := 11 + 1) G (by decide) (by decide) dX3_fillCosts_135 h14 rfl (by omega) (by decide) ?_
              show Wp K 14 (Mx K h (fun rr nx' l' => ∃ (C : Nat → Nat → Int), (∀ i, 1 ≤ i → i ≤ rw_ → ∀ j, 1 ≤ j → j ≤ cl → C i j = kst (XJ q st la lb) pt (i) j) ∧ rr = none ∧ nx' = nx ∧ l' = [(15, oL 2 25 (C 0)), (16, oL 2 25 (C 1)), (17, oL 2 25 (C 2)), (18, oL 2 25 (C 3)), (19, oL 2 25 (C 4)), (20, oL 2 25 (C 5)), (21, oL 2 25 (C 6)), (22, oL 2 25 (C 7)), (23, oL 2 25 (C 8)), (24, oL 2 25 (C 9)), (25, oL 2 25 (C 10)), (26, oL 2 25 (C 11)), (27, oL 2 25 (C 12))]) (0, 0)) (0, 0) 136 [(10, zJ (23298085122481000 + (12 * ((dgP (11 + 1) : Nat) : Int)))), (0, zR 11), (1, zR 2), (2, zI (st 0)), (3, zI (st 1)), (4, zI (st 2)), (5, zJ ((dgP (11 + 1) : Nat) : Int)), (7, zI ((11 + 1 : Nat) : Int)), (8, zI ((la 11 : Nat) : Int)), (9, zI ((c + 1 : Nat) : Int))] [zR 27] (nx, h, [(15, oL 2 25 (C 0)), (16, oL 2 25 (C 1)), (17, oL 2 25 (C 2)), (18, oL 2 25 (C 3)), (19, oL 2 25 (C 4)), (20, oL 2 25 (C 5)), (21, oL 2 25 (C 6)), (22, oL 2 25 (C 7)), (23, oL 2 25 (C 8)), (24, oL 2 25 (C 9)), (25, oL 2 25 (C 10)), (26, oL 2 25 (C 11)), (27, oL 2 25 Kr)])
              refine wp_iload G 9 dX3_fillCosts_136 rfl ?_
              refine wp_lload G 0 dX3_fillCosts_138 rfl ?_
              refine wp_lastE (j := c + 1) (hp2 := (nx, h, [(15, oL 2 25 (C 0)), (16, oL 2 25 (C 1)), (17, oL 2 25 (C 2)), (18, oL 2 25 (C 3)), (19, oL 2 25 (C 4)), (20, oL 2 25 (C 5)), (21, oL 2 25 (C 6)), (22, oL 2 25 (C 7)), (23, oL 2 25 (C 8)), (24, oL 2 25 (C 9)), (25, oL 2 25 (C 10)), (26, oL 2 25 (C 11)), (27, oL 2 25 (fup Kr (c + 1) (23298085122481000 + (12 * ((dgP (11 + 1) : Nat) : Int)))))])) G dX3_fillCosts_140 rfl rfl (by omega) (by decide) rfl ?_
              refine wp_iinc (lv' := [(9, zI (((c + 1 : Nat) : Int) + 1)), (10, zJ (23298085122481000 + (12 * ((dgP (11 + 1) : Nat) : Int)))), (0, zR 11), (1, zR 2), (2, zI (st 0)), (3, zI (st 1)), (4, zI (st 2)), (5, zJ ((dgP (11 + 1) : Nat) : Int)), (7, zI ((11 + 1 : Nat) : Int)), (8, zI ((la 11 : Nat) : Int))]) G 9 dX3_fillCosts_141 rfl (by decide) rfl ?_
              refine wp_goto G dX3_fillCosts_144 ?_
              refine wp_lv [2, 3, 4, 5, 6, 7, 8, 9, 0] rfl ?_
              exact ih39 (c + 1) (fup Kr (c + 1) (23298085122481000 + (12 * ((dgP (11 + 1) : Nat) : Int)))) (((c + 1 : Nat) : Int) + 1) (by omega) (by omega) (by omega) (by exact f_put hK (by first | exact kst_a (by omega) | exact kst_s (by omega) (by assumption) | exact kst_n (by omega) (by assumption)))
            · skip
              refine wp_aload_n G 1 dX3_fillCosts_69 rfl ?_
              refine wp_get G 6 cOk3 fX3_31 dX3_fillCosts_70 h11 rfl ?_
              refine wp_iload G 9 dX3_fillCosts_73 rfl ?_
              refine wp_iconst G dX3_fillCosts_75 ?_
              refine wp_isub G dX3_fillCosts_76 ?_
              refine wp_iald (j := c) G dX3_fillCosts_77 h13 (by omega) (by omega) (by decide) ?_
              rw [(hB c (by omega)).1]
              have hbc := (hB c (by omega)).2
              have hmb := mis_b hO hak hbc
              refine wp_istore (lv' := [(12, zI ((lb c : Nat) : Int)), (10, zJ (23298085122481000 + (12 * ((dgP (11 + 1) : Nat) : Int)))), (0, zR 11), (1, zR 2), (2, zI (st 0)), (3, zI (st 1)), (4, zI (st 2)), (5, zJ ((dgP (11 + 1) : Nat) : Int)), (7, zI ((11 + 1 : Nat) : Int)), (8, zI ((la 11 : Nat) : Int)), (9, zI ((c + 1 : Nat) : Int))]) G dX3_fillCosts_78 (by decide) rfl ?_
              refine wp_aload_n G 3 dX3_fillCosts_80 rfl ?_
              refine wp_iload G 9 dX3_fillCosts_81 rfl ?_
              refine wp_iload G 0 dX3_fillCosts_83 rfl ?_
              refine wp_iload_n G 4 dX3_fillCosts_85 rfl ?_
              refine wp_iload_n G 5 dX3_fillCosts_86 rfl ?_
              refine wp_iload G 6 dX3_fillCosts_87 rfl ?_
              refine wp_cSE (as := [zR 2, zI ((la 11 : Nat) : Int), zI ((lb c : Nat) : Int), zI (st 0), zI (st 1), zI (st 2)]) (rest := []) (hp2 := (nx, h, [(15, oL 2 25 (C 0)), (16, oL 2 25 (C 1)), (17, oL 2 25 (C 2)), (18, oL 2 25 (C 3)), (19, oL 2 25 (C 4)), (20, oL 2 25 (C 5)), (21, oL 2 25 (C 6)), (22, oL 2 25 (C 7)), (23, oL 2 25 (C 8)), (24, oL 2 25 (C 9)), (25, oL 2 25 (C 10)), (26, oL 2 25 (C 11)), (27, oL 2 25 Kr)])) G mX3_maySame lX3_94 sX3_maySame dX3_fillCosts_89 rfl rfl (Nat.le_of_ble_eq_true rfl) (rmx_ok hR (by decide) (by decide) (by decide) (by decide)) (t_X3_maySame (nx := nx) (i := (la 11)) (j := (lb c)) (dd := (st 0)) (ff := (st 1)) (tt := (st 2)) hQ hO (by omega) (by omega) (by omega) (by omega) (by omega)) rfl ?_
              refine wp_istore (lv' := [(13, zI (bt ((if 0 ≤ (q 1 (la 11) - q 1 (lb c)) then (q 1 (la 11) - q 1 (lb c)) else -(q 1 (la 11) - q 1 (lb c))) ≤ (st 0) ∧ (farZ (q 2 (la 11)) (q 3 (la 11)) (q 2 (lb c)) (q 3 (lb c))) ≤ (st 1) ∧ (if 0 ≤ (q 4 (la 11) - q 4 (lb c)) then (q 4 (la 11) - q 4 (lb c)) else -(q 4 (la 11) - q 4 (lb c))) ≤ (st 2)))), (12, zI ((lb c : Nat) : Int)), (10, zJ (23298085122481000 + (12 * ((dgP (11 + 1) : Nat) : Int)))), (0, zR 11), (1, zR 2), (2, zI (st 0)), (3, zI (st 1)), (4, zI (st 2)), (5, zJ ((dgP (11 + 1) : Nat) : Int)), (7, zI ((11 + 1 : Nat) : Int)), (8, zI ((la 11 : Nat) : Int)), (9, zI ((c + 1 : Nat) : Int))]) G dX3_fillCosts_92 (by decide) rfl ?_
              refine wp_iload G 0 dX3_fillCosts_94 rfl ?_
              refine wp_ifeq_bt G dX3_fillCosts_96 (fun kq37 => ?_) (fun kq37 => ?_)
              · skip
                refine wp_ldc2 (z := 1000000000000000000) G kX3_102 dX3_fillCosts_124 ?_
                refine wp_lstore (lv' := [(10, zJ 1000000000000000000), (13, zI (bt ((if 0 ≤ (q 1 (la 11) - q 1 (lb c)) then (q 1 (la 11) - q 1 (lb c)) else -(q 1 (la 11) - q 1 (lb c))) ≤ (st 0) ∧ (farZ (q 2 (la 11)) (q 3 (la 11)) (q 2 (lb c)) (q 3 (lb c))) ≤ (st 1) ∧ (if 0 ≤ (q 4 (la 11) - q 4 (lb c)) then (q 4 (la 11) - q 4 (lb c)) else -(q 4 (la 11) - q 4 (lb c))) ≤ (st 2)))), (12, zI ((lb c : Nat) : Int)), (0, zR 11), (1, zR 2), (2, zI (st 0)), (3, zI (st 1)), (4, zI (st 2)), (5, zJ ((dgP (11 + 1) : Nat) : Int)), (7, zI ((11 + 1 : Nat) : Int)), (8, zI ((la 11 : Nat) : Int)), (9, zI ((c + 1 : Nat) : Int))]) G dX3_fillCosts_127 (by decide) rfl ?_
                refine wp_aload_n G 3 dX3_fillCosts_129 rfl ?_
                refine wp_get G 7 cOk3 fX3_36 dX3_fillCosts_130 h11 rfl ?_
                refine wp_iload G 9 dX3_fillCosts_133 rfl ?_
                refine wp_aald (j := 11 + 1) G (by decide) (by decide) dX3_fillCosts_135 h14 rfl (by omega) (by decide) ?_
                show Wp K 14 (Mx K h (fun rr nx' l' => ∃ (C : Nat → Nat → Int), (∀ i, 1 ≤ i → i ≤ rw_ → ∀ j, 1 ≤ j → j ≤ cl → C i j = kst (XJ q st la lb) pt (i) j) ∧ rr = none ∧ nx' = nx ∧ l' = [(15, oL 2 25 (C 0)), (16, oL 2 25 (C 1)), (17, oL 2 25 (C 2)), (18, oL 2 25 (C 3)), (19, oL 2 25 (C 4)), (20, oL 2 25 (C 5)), (21, oL 2 25 (C 6)), (22, oL 2 25 (C 7)), (23, oL 2 25 (C 8)), (24, oL 2 25 (C 9)), (25, oL 2 25 (C 10)), (26, oL 2 25 (C 11)), (27, oL 2 25 (C 12))]) (0, 0)) (0, 0) 136 [(10, zJ 1000000000000000000), (13, zI (bt ((if 0 ≤ (q 1 (la 11) - q 1 (lb c)) then (q 1 (la 11) - q 1 (lb c)) else -(q 1 (la 11) - q 1 (lb c))) ≤ (st 0) ∧ (farZ (q 2 (la 11)) (q 3 (la 11)) (q 2 (lb c)) (q 3 (lb c))) ≤ (st 1) ∧ (if 0 ≤ (q 4 (la 11) - q 4 (lb c)) then (q 4 (la 11) - q 4 (lb c)) else -(q 4 (la 11) - q 4 (lb c))) ≤ (st 2)))), (12, zI ((lb c : Nat) : Int)), (0, zR 11), (1, zR 2), (2, zI (st 0)), (3, zI (st 1)), (4, zI (st 2)), (5, zJ ((dgP (11 + 1) : Nat) : Int)), (7, zI ((11 + 1 : Nat) : Int)), (8, zI ((la 11 : Nat) : Int)), (9, zI ((c + 1 : Nat) : Int))] [zR 27] (nx, h, [(15, oL 2 25 (C 0)), (16, oL 2 25 (C 1)), (17, oL 2 25 (C 2)), (18, oL 2 25 (C 3)), (19, oL 2 25 (C 4)), (20, oL 2 25 (C 5)), (21, oL 2 25 (C 6)), (22, oL 2 25 (C 7)), (23, oL 2 25 (C 8)), (24, oL 2 25 (C 9)), (25, oL 2 25 (C 10)), (26, oL 2 25 (C 11)), (27, oL 2 25 Kr)])
                refine wp_iload G 11 dX3_fillCosts_136 rfl ?_
                refine wp_lload G 0 dX3_fillCosts_138 rfl ?_
                refine wp_lastE (j := c + 1) (hp2 := (nx, h, [(15, oL 2 25 (C 0)), (16, oL 2 25 (C 1)), (17, oL 2 25 (C 2)), (18, oL 2 25 (C 3)), (19, oL 2 25 (C 4)), (20, oL 2 25 (C 5)), (21, oL 2 25 (C 6)), (22, oL 2 25 (C 7)), (23, oL 2 25 (C 8)), (24, oL 2 25 (C 9)), (25, oL 2 25 (C 10)), (26, oL 2 25 (C 11)), (27, oL 2 25 (fup Kr (c + 1) 1000000000000000000))])) G dX3_fillCosts_140 rfl rfl (by omega) (by decide) rfl ?_
                refine wp_iinc (lv' := [(9, zI (((c + 1 : Nat) : Int) + 1)), (10, zJ 1000000000000000000), (13, zI (bt ((if 0 ≤ (q 1 (la 11) - q 1 (lb c)) then (q 1 (la 11) - q 1 (lb c)) else -(q 1 (la 11) - q 1 (lb c))) ≤ (st 0) ∧ (farZ (q 2 (la 11)) (q 3 (la 11)) (q 2 (lb c)) (q 3 (lb c))) ≤ (st 1) ∧ (if 0 ≤ (q 4 (la 11) - q 4 (lb c)) then (q 4 (la 11) - q 4 (lb c)) else -(q 4 (la 11) - q 4 (lb c))) ≤ (st 2)))), (12, zI ((lb c : Nat) : Int)), (0, zR 11), (1, zR 2), (2, zI (st 0)), (3, zI (st 1)), (4, zI (st 2)), (5, zJ ((dgP (11 + 1) : Nat) : Int)), (7, zI ((11 + 1 : Nat) : Int)), (8, zI ((la 11 : Nat) : Int))]) G 11 dX3_fillCosts_141 rfl (by decide) rfl ?_
                refine wp_goto G dX3_fillCosts_144 ?_
                refine wp_lv [4, 5, 6, 7, 8, 9, 10, 11, 0] rfl ?_
                exact ih39 (c + 1) (fup Kr (c + 1) 1000000000000000000) (((c + 1 : Nat) : Int) + 1) (by omega) (by omega) (by omega) (by exact f_put hK (by first | exact kst_a (by omega) | exact kst_s (by omega) (by assumption) | exact kst_n (by omega) (by assumption)))
              · skip
                refine wp_aload_n G 4 dX3_fillCosts_99 rfl ?_
                refine wp_iload G 10 dX3_fillCosts_100 rfl ?_
                refine wp_iload G 1 dX3_fillCosts_102 rfl ?_
                refine wp_cSE (as := [zR 2, zI ((la 11 : Nat) : Int), zI ((lb c : Nat) : Int)]) (rest := []) (hp2 := (nx, h, [(15, oL 2 25 (C 0)), (16, oL 2 25 (C 1)), (17, oL 2 25 (C 2)), (18, oL 2 25 (C 3)), (19, oL 2 25 (C 4)), (20, oL 2 25 (C 5)), (21, oL 2 25 (C 6)), (22, oL 2 25 (C 7)), (23, oL 2 25 (C 8)), (24, oL 2 25 (C 9)), (25, oL 2 25 (C 10)), (26, oL 2 25 (C 11)), (27, oL 2 25 Kr)])) G mX3_missOf lX3_98 sX3_missOf dX3_fillCosts_104 rfl rfl (Nat.le_of_ble_eq_true rfl) (rmx_ok hR (by decide) (by decide) (by decide) (by decide)) (t_X3_missOf (nx := nx) (i := (la 11)) (j := (lb c)) hQ hO (by omega) (by omega)) rfl ?_
                refine wp_i2l G (by omega) dX3_fillCosts_107 ?_
                refine wp_ldc2 (z := 23298085122481) G kX3_86 dX3_fillCosts_108 ?_
                refine wp_lmul G dX3_fillCosts_111 ?_
                refine wp_iload G 11 dX3_fillCosts_112 rfl ?_
                refine wp_iconst G dX3_fillCosts_114 ?_
                refine wp_isub G dX3_fillCosts_115 ?_
                refine wp_i2l G (by omega) dX3_fillCosts_116 ?_
                refine wp_lload G 8 dX3_fillCosts_117 rfl ?_
                refine wp_lmul G dX3_fillCosts_119 ?_
                refine wp_ladd G dX3_fillCosts_120 ?_
                refine wp_goto G dX3_fillCosts_121 ?_
                refine wp_lstore (lv' := [(10, zJ ((((if 0 ≤ (q 1 (la 11) - q 1 (lb c)) then (q 1 (la 11) - q 1 (lb c)) else -(q 1 (la 11) - q 1 (lb c))) + (farZ (q 2 (la 11)) (q 3 (la 11)) (q 2 (lb c)) (q 3 (lb c))) + (if 0 ≤ (q 4 (la 11) - q 4 (lb c)) then (q 4 (la 11) - q 4 (lb c)) else -(q 4 (la 11) - q 4 (lb c)))) * 23298085122481) + ((((c + 1 : Nat) : Int) - 1) * ((dgP (11 + 1) : Nat) : Int)))), (13, zI (bt ((if 0 ≤ (q 1 (la 11) - q 1 (lb c)) then (q 1 (la 11) - q 1 (lb c)) else -(q 1 (la 11) - q 1 (lb c))) ≤ (st 0) ∧ (farZ (q 2 (la 11)) (q 3 (la 11)) (q 2 (lb c)) (q 3 (lb c))) ≤ (st 1) ∧ (if 0 ≤ (q 4 (la 11) - q 4 (lb c)) then (q 4 (la 11) - q 4 (lb c)) else -(q 4 (la 11) - q 4 (lb c))) ≤ (st 2)))), (12, zI ((lb c : Nat) : Int)), (0, zR 11), (1, zR 2), (2, zI (st 0)), (3, zI (st 1)), (4, zI (st 2)), (5, zJ ((dgP (11 + 1) : Nat) : Int)), (7, zI ((11 + 1 : Nat) : Int)), (8, zI ((la 11 : Nat) : Int)), (9, zI ((c + 1 : Nat) : Int))]) G dX3_fillCosts_127 (by decide) rfl ?_
                refine wp_aload_n G 3 dX3_fillCosts_129 rfl ?_
                refine wp_get G 7 cOk3 fX3_36 dX3_fillCosts_130 h11 rfl ?_
                refine wp_iload G 9 dX3_fillCosts_133 rfl ?_
                refine wp_aald (j := 11 + 1) G (by decide) (by decide) dX3_fillCosts_135 h14 rfl (by omega) (by decide) ?_
                show Wp K 14 (Mx K h (fun rr nx' l' => ∃ (C : Nat → Nat → Int), (∀ i, 1 ≤ i → i ≤ rw_ → ∀ j, 1 ≤ j → j ≤ cl → C i j = kst (XJ q st la lb) pt (i) j) ∧ rr = none ∧ nx' = nx ∧ l' = [(15, oL 2 25 (C 0)), (16, oL 2 25 (C 1)), (17, oL 2 25 (C 2)), (18, oL 2 25 (C 3)), (19, oL 2 25 (C 4)), (20, oL 2 25 (C 5)), (21, oL 2 25 (C 6)), (22, oL 2 25 (C 7)), (23, oL 2 25 (C 8)), (24, oL 2 25 (C 9)), (25, oL 2 25 (C 10)), (26, oL 2 25 (C 11)), (27, oL 2 25 (C 12))]) (0, 0)) (0, 0) 136 [(10, zJ ((((if 0 ≤ (q 1 (la 11) - q 1 (lb c)) then (q 1 (la 11) - q 1 (lb c)) else -(q 1 (la 11) - q 1 (lb c))) + (farZ (q 2 (la 11)) (q 3 (la 11)) (q 2 (lb c)) (q 3 (lb c))) + (if 0 ≤ (q 4 (la 11) - q 4 (lb c)) then (q 4 (la 11) - q 4 (lb c)) else -(q 4 (la 11) - q 4 (lb c)))) * 23298085122481) + ((((c + 1 : Nat) : Int) - 1) * ((dgP (11 + 1) : Nat) : Int)))), (13, zI (bt ((if 0 ≤ (q 1 (la 11) - q 1 (lb c)) then (q 1 (la 11) - q 1 (lb c)) else -(q 1 (la 11) - q 1 (lb c))) ≤ (st 0) ∧ (farZ (q 2 (la 11)) (q 3 (la 11)) (q 2 (lb c)) (q 3 (lb c))) ≤ (st 1) ∧ (if 0 ≤ (q 4 (la 11) - q 4 (lb c)) then (q 4 (la 11) - q 4 (lb c)) else -(q 4 (la 11) - q 4 (lb c))) ≤ (st 2)))), (12, zI ((lb c : Nat) : Int)), (0, zR 11), (1, zR 2), (2, zI (st 0)), (3, zI (st 1)), (4, zI (st 2)), (5, zJ ((dgP (11 + 1) : Nat) : Int)), (7, zI ((11 + 1 : Nat) : Int)), (8, zI ((la 11 : Nat) : Int)), (9, zI ((c + 1 : Nat) : Int))] [zR 27] (nx, h, [(15, oL 2 25 (C 0)), (16, oL 2 25 (C 1)), (17, oL 2 25 (C 2)), (18, oL 2 25 (C 3)), (19, oL 2 25 (C 4)), (20, oL 2 25 (C 5)), (21, oL 2 25 (C 6)), (22, oL 2 25 (C 7)), (23, oL 2 25 (C 8)), (24, oL 2 25 (C 9)), (25, oL 2 25 (C 10)), (26, oL 2 25 (C 11)), (27, oL 2 25 Kr)])
                refine wp_iload G 11 dX3_fillCosts_136 rfl ?_
                refine wp_lload G 0 dX3_fillCosts_138 rfl ?_
                refine wp_lastE (j := c + 1) (hp2 := (nx, h, [(15, oL 2 25 (C 0)), (16, oL 2 25 (C 1)), (17, oL 2 25 (C 2)), (18, oL 2 25 (C 3)), (19, oL 2 25 (C 4)), (20, oL 2 25 (C 5)), (21, oL 2 25 (C 6)), (22, oL 2 25 (C 7)), (23, oL 2 25 (C 8)), (24, oL 2 25 (C 9)), (25, oL 2 25 (C 10)), (26, oL 2 25 (C 11)), (27, oL 2 25 (fup Kr (c + 1) ((((if 0 ≤ (q 1 (la 11) - q 1 (lb c)) then (q 1 (la 11) - q 1 (lb c)) else -(q 1 (la 11) - q 1 (lb c))) + (farZ (q 2 (la 11)) (q 3 (la 11)) (q 2 (lb c)) (q 3 (lb c))) + (if 0 ≤ (q 4 (la 11) - q 4 (lb c)) then (q 4 (la 11) - q 4 (lb c)) else -(q 4 (la 11) - q 4 (lb c)))) * 23298085122481) + ((((c + 1 : Nat) : Int) - 1) * ((dgP (11 + 1) : Nat) : Int)))))])) G dX3_fillCosts_140 rfl rfl (by omega) (by decide) rfl ?_
                refine wp_iinc (lv' := [(9, zI (((c + 1 : Nat) : Int) + 1)), (10, zJ ((((if 0 ≤ (q 1 (la 11) - q 1 (lb c)) then (q 1 (la 11) - q 1 (lb c)) else -(q 1 (la 11) - q 1 (lb c))) + (farZ (q 2 (la 11)) (q 3 (la 11)) (q 2 (lb c)) (q 3 (lb c))) + (if 0 ≤ (q 4 (la 11) - q 4 (lb c)) then (q 4 (la 11) - q 4 (lb c)) else -(q 4 (la 11) - q 4 (lb c)))) * 23298085122481) + ((((c + 1 : Nat) : Int) - 1) * ((dgP (11 + 1) : Nat) : Int)))), (13, zI (bt ((if 0 ≤ (q 1 (la 11) - q 1 (lb c)) then (q 1 (la 11) - q 1 (lb c)) else -(q 1 (la 11) - q 1 (lb c))) ≤ (st 0) ∧ (farZ (q 2 (la 11)) (q 3 (la 11)) (q 2 (lb c)) (q 3 (lb c))) ≤ (st 1) ∧ (if 0 ≤ (q 4 (la 11) - q 4 (lb c)) then (q 4 (la 11) - q 4 (lb c)) else -(q 4 (la 11) - q 4 (lb c))) ≤ (st 2)))), (12, zI ((lb c : Nat) : Int)), (0, zR 11), (1, zR 2), (2, zI (st 0)), (3, zI (st 1)), (4, zI (st 2)), (5, zJ ((dgP (11 + 1) : Nat) : Int)), (7, zI ((11 + 1 : Nat) : Int)), (8, zI ((la 11 : Nat) : Int))]) G 11 dX3_fillCosts_141 rfl (by decide) rfl ?_
                refine wp_goto G dX3_fillCosts_144 ?_
                refine wp_lv [4, 5, 6, 7, 8, 9, 10, 11, 0] rfl ?_
                exact ih39 (c + 1) (fup Kr (c + 1) ((((if 0 ≤ (q 1 (la 11) - q 1 (lb c)) then (q 1 (la 11) - q 1 (lb c)) else -(q 1 (la 11) - q 1 (lb c))) + (farZ (q 2 (la 11)) (q 3 (la 11)) (q 2 (lb c)) (q 3 (lb c))) + (if 0 ≤ (q 4 (la 11) - q 4 (lb c)) then (q 4 (la 11) - q 4 (lb c)) else -(q 4 (la 11) - q 4 (lb c)))) * 23298085122481) + ((((c + 1 : Nat) : Int) - 1) * ((dgP (11 + 1) : Nat) : Int)))) (((c + 1 : Nat) : Int) + 1) (by omega) (by omega) (by omega) (by exact f_put hK (by first | exact kst_a (by omega) | exact kst_s (by omega) (by assumption) | exact kst_n (by omega) (by assumption)))

