theorem lk_lt {nx : Nat} {h : Nat → Option PC} {l : List (Nat × PC)} {r : Nat} {c : PC} (h28 : r < 28) (hl : l.all (fun x => decide (28 ≤ x.1)) = true) (hh : h r = some c) : hget (nx, h, l) r = some c := by
  show hlk l h r = some c
  induction l with
  | nil => exact hh
  | cons x l ih =>
    simp only [List.all_cons, Bool.and_eq_true, decide_eq_true_eq] at hl
    rw [hlk, if_neg (by omega)]
    exact ih hl.2
theorem cN_all {q : Nat → Nat → Int} {a : Int} {i n : Nat} {R : Nat → Int} (hR : ∀ j, j < i → q 0 j = a → cN q a j < 12 → R (cN q a j) = ((j : Nat) : Int)) (hn : cN q a n ≤ 12) (he : n ≤ i ∨ 12 ≤ cN q a i) : ∀ j, j < n → q 0 j = a → cN q a j < 12 → R (cN q a j) = ((j : Nat) : Int) := by
  intro j hj h1 h2
  refine hR j ?_ h1 h2
  rcases he with he | he
  · omega
  · rcases Nat.lt_or_ge j i with c | c
    · exact c
    · have := cN_mono q a (j := i) j c
      omega
theorem cN_end {q : Nat → Nat → Int} {a : Int} {i n : Nat} (hn : cN q a n ≤ 12) (hi : i ≤ n) (he : n ≤ i ∨ 12 ≤ cN q a i) : cN q a i = cN q a n := by
  have := cN_mono q a (j := i) n hi
  rcases he with he | he
  · rw [show i = n by omega]
  · omega
abbrev JO (pa mi : Int) (rw_ pt cl : Nat) : PC := oO 3 [zI pa, zI mi, zI ((rw_ : Nat) : Int), zI ((pt : Nat) : Int), zI ((cl : Nat) : Int), zR 12, zR 13, zR 14, zR 28, zR 29, zR 30, zR 31, zR 32, zR 33]
def isJo (h : Nat → Option PC) (pa mi : Int) (rw_ pt cl : Nat) (u v sl ro be re : Nat → Int) : Prop := h 11 = some (JO pa mi rw_ pt cl) ∧ h 28 = some (oL 2 13 u) ∧ h 29 = some (oL 2 25 v) ∧ h 30 = some (oL 2 25 sl) ∧ h 31 = some (oA 0 25 ro) ∧ h 32 = some (oA 0 25 be) ∧ h 33 = some (oA 1 25 re)
def nrF (re sl : Nat → Int) : Nat → Nat
  | 0 => 0
  | k + 1 => if re (k + 1) = 0 ∧ (nrF re sl k = 0 ∨ sl (k + 1) < sl (nrF re sl k)) then k + 1 else nrF re sl k
theorem nrF_y {re sl : Nat → Int} {k : Nat} (h : re (k + 1) = 0 ∧ (nrF re sl k = 0 ∨ sl (k + 1) < sl (nrF re sl k))) : nrF re sl (k + 1) = k + 1 := by rw [nrF, if_pos h]
theorem nrF_n {re sl : Nat → Int} {k : Nat} (h : ¬ (re (k + 1) = 0 ∧ (nrF re sl k = 0 ∨ sl (k + 1) < sl (nrF re sl k)))) : nrF re sl (k + 1) = nrF re sl k := by rw [nrF, if_neg h]
theorem nrF_le (re sl : Nat → Int) : ∀ k, nrF re sl k ≤ k
  | 0 => Nat.le_refl _
  | k + 1 => by
    have := nrF_le re sl k
    rw [nrF]
    split <;> omega
theorem nrF_re (re sl : Nat → Int) : ∀ k, nrF re sl k = 0 ∨ re (nrF re sl k) = 0
  | 0 => Or.inl rfl
  | k + 1 => by
    by_cases c : re (k + 1) = 0 ∧ (nrF re sl k = 0 ∨ sl (k + 1) < sl (nrF re sl k))
    · rw [nrF_y c]; exact Or.inr c.1
    · rw [nrF_n c]; exact nrF_re re sl k
def lsS (c re sl : Nat → Int) (k : Nat) : Nat → Int := fun j => if (1 ≤ j ∧ j ≤ k) ∧ re j = 0 ∧ c j < sl j then c j else sl j
def lsB (c re sl be : Nat → Int) (w : Int) (k : Nat) : Nat → Int := fun j => if (1 ≤ j ∧ j ≤ k) ∧ re j = 0 ∧ c j < sl j then w else be j
theorem lsS_at {c re sl : Nat → Int} {k : Nat} : lsS c re sl k (k + 1) = sl (k + 1) := if_neg (fun z => by have := z.1.2; omega)
theorem ls_0 {c re sl be : Nat → Int} {w : Int} : lsS c re sl 0 = sl ∧ lsB c re sl be w 0 = be := ⟨funext fun _ => if_neg (fun z => by have := z.1; omega), funext fun _ => if_neg (fun z => by have := z.1; omega)⟩
theorem ls_y {c re sl be : Nat → Int} {w : Int} {k : Nat} (h : re (k + 1) = 0 ∧ c (k + 1) < sl (k + 1)) : fup (lsS c re sl k) (k + 1) (c (k + 1)) = lsS c re sl (k + 1) ∧ fup (lsB c re sl be w k) (k + 1) w = lsB c re sl be w (k + 1) := by
  constructor <;> funext j <;> unfold fup <;> by_cases e : j = k + 1
  · rw [if_pos e, e]; exact (if_pos ⟨by omega, h⟩).symm
  · rw [if_neg e]
    unfold lsS
    by_cases z : (1 ≤ j ∧ j ≤ k) ∧ re j = 0 ∧ c j < sl j
    · rw [if_pos z, if_pos ⟨by omega, z.2⟩]
    · rw [if_neg z, if_neg (fun y => z ⟨by omega, y.2⟩)]
  · rw [if_pos e, e]; exact (if_pos ⟨by omega, h⟩).symm
  · rw [if_neg e]
    unfold lsB
    by_cases z : (1 ≤ j ∧ j ≤ k) ∧ re j = 0 ∧ c j < sl j
    · rw [if_pos z, if_pos ⟨by omega, z.2⟩]
    · rw [if_neg z, if_neg (fun y => z ⟨by omega, y.2⟩)]
theorem ls_n {c re sl be : Nat → Int} {w : Int} {k : Nat} (h : ¬ (re (k + 1) = 0 ∧ c (k + 1) < sl (k + 1))) : lsS c re sl k = lsS c re sl (k + 1) ∧ lsB c re sl be w k = lsB c re sl be w (k + 1) := by
  constructor <;> funext j
  · unfold lsS
    by_cases z : (1 ≤ j ∧ j ≤ k) ∧ re j = 0 ∧ c j < sl j
    · rw [if_pos z, if_pos ⟨by omega, z.2⟩]
    · rw [if_neg z, if_neg (fun y => by
        by_cases e : j = k + 1
        · subst e; exact h y.2
        · exact z ⟨by omega, y.2⟩)]
  · unfold lsB
    by_cases z : (1 ≤ j ∧ j ≤ k) ∧ re j = 0 ∧ c j < sl j
    · rw [if_pos z, if_pos ⟨by omega, z.2⟩]
    · rw [if_neg z, if_neg (fun y => by
        by_cases e : j = k + 1
        · subst e; exact h y.2
        · exact z ⟨by omega, y.2⟩)]

set_option maxRecDepth 100000 in
set_option maxHeartbeats 4000000 in
theorem t_X3_daysApart {nx : Nat} {h : Nat → Option PC} {n : Nat} {q : Nat → Nat → Int} {o : Nat → Nat} {i : Nat} {j : Nat} (hQ : isQ h n q o) (hO : okQ n q o) (hi : i < n) (hj : j < n) : Cx 1 (0, 0) yX3_daysApart cX3_daysApart 3 (some .int) [zR 2, zI ((i : Nat) : Int), zI ((j : Nat) : Int)] nx h (Rt (zI (if 0 ≤ (q 1 i - q 1 j) then (q 1 i - q 1 j) else -(q 1 i - q 1 j))) nx []) := by
  refine cx_of pnX3_daysApart (Nat.le_of_ble_eq_true rfl) ?_
  intro K G hr hnm hR
  obtain ⟨h2, h3, h4, h5, h6, h7, h8, h9, h10⟩ := id hQ
  have hn40 := hO.1
  show Wp K 3 (Mx K h (Rt (zI (if 0 ≤ (q 1 i - q 1 j) then (q 1 i - q 1 j) else -(q 1 i - q 1 j))) nx []) (0, 0)) (0, 0) 0 [(0, zR 2), (1, zI ((i : Nat) : Int)), (2, zI ((j : Nat) : Int))] [] (nx, h, [])
  refine wp_aload_n G 0 dX3_daysApart_0 rfl ?_
  refine wp_get G 2 cOk5 fX3_113 dX3_daysApart_1 h2 rfl ?_
  refine wp_iload_n G 1 dX3_daysApart_4 rfl ?_
  refine wp_iald (j := i) G dX3_daysApart_5 h4 rfl (by omega) (by decide) ?_
  have rrq1 := hO.d i (by omega)
  refine wp_aload_n G 0 dX3_daysApart_6 rfl ?_
  refine wp_get G 2 cOk5 fX3_113 dX3_daysApart_7 h2 rfl ?_
  refine wp_iload_n G 2 dX3_daysApart_10 rfl ?_
  refine wp_iald (j := j) G dX3_daysApart_11 h4 rfl (by omega) (by decide) ?_
  have rrq2 := hO.d j (by omega)
  refine wp_isub G dX3_daysApart_12 ?_
  refine wp_mabs G (by omega) lX3_116 sJ9_abs_0f7a4 mJ9_abs_0f7a4.1 mJ9_abs_0f7a4.2.1 dX3_daysApart_13 (Nat.le_of_ble_eq_true rfl) (rmx_ok (maxL := 2) hR (by decide) (by decide) (by decide) (by decide)) ?_
  exact wp_ireturn G hr dX3_daysApart_16 ⟨by rfl, rfl, by rfl⟩

set_option maxRecDepth 100000 in
set_option maxHeartbeats 4000000 in
theorem t_X3_tenthsApart {nx : Nat} {h : Nat → Option PC} {n : Nat} {q : Nat → Nat → Int} {o : Nat → Nat} {i : Nat} {j : Nat} (hQ : isQ h n q o) (hO : okQ n q o) (hi : i < n) (hj : j < n) : Cx 1 (0, 0) yX3_tenthsApart cX3_tenthsApart 3 (some .int) [zR 2, zI ((i : Nat) : Int), zI ((j : Nat) : Int)] nx h (Rt (zI (if 0 ≤ (q 4 i - q 4 j) then (q 4 i - q 4 j) else -(q 4 i - q 4 j))) nx []) := by
  refine cx_of pnX3_tenthsApart (Nat.le_of_ble_eq_true rfl) ?_
  intro K G hr hnm hR
  obtain ⟨h2, h3, h4, h5, h6, h7, h8, h9, h10⟩ := id hQ
  have hn40 := hO.1
  show Wp K 3 (Mx K h (Rt (zI (if 0 ≤ (q 4 i - q 4 j) then (q 4 i - q 4 j) else -(q 4 i - q 4 j))) nx []) (0, 0)) (0, 0) 0 [(0, zR 2), (1, zI ((i : Nat) : Int)), (2, zI ((j : Nat) : Int))] [] (nx, h, [])
  refine wp_aload_n G 0 dX3_tenthsApart_0 rfl ?_
  refine wp_get G 5 cOk5 fX3_132 dX3_tenthsApart_1 h2 rfl ?_
  refine wp_iload_n G 1 dX3_tenthsApart_4 rfl ?_
  refine wp_iald (j := i) G dX3_tenthsApart_5 h7 rfl (by omega) (by decide) ?_
  have rrq1 := hO.g i (by omega)
  refine wp_aload_n G 0 dX3_tenthsApart_6 rfl ?_
  refine wp_get G 5 cOk5 fX3_132 dX3_tenthsApart_7 h2 rfl ?_
  refine wp_iload_n G 2 dX3_tenthsApart_10 rfl ?_
  refine wp_iald (j := j) G dX3_tenthsApart_11 h7 rfl (by omega) (by decide) ?_
  have rrq2 := hO.g j (by omega)
  refine wp_isub G dX3_tenthsApart_12 ?_
  refine wp_mabs G (by omega) lX3_116 sJ9_abs_0f7a4 mJ9_abs_0f7a4.1 mJ9_abs_0f7a4.2.1 dX3_tenthsApart_13 (Nat.le_of_ble_eq_true rfl) (rmx_ok (maxL := 2) hR (by decide) (by decide) (by decide) (by decide)) ?_
  exact wp_ireturn G hr dX3_tenthsApart_16 ⟨by rfl, rfl, by rfl⟩

set_option maxRecDepth 100000 in
set_option maxHeartbeats 4000000 in
theorem t_X3_cellsApart {nx : Nat} {h : Nat → Option PC} {n : Nat} {q : Nat → Nat → Int} {o : Nat → Nat} {i : Nat} {j : Nat} (hQ : isQ h n q o) (hO : okQ n q o) (hi : i < n) (hj : j < n) : Cx 2 (0, 0) yX3_cellsApart cX3_cellsApart 3 (some .int) [zR 2, zI ((i : Nat) : Int), zI ((j : Nat) : Int)] nx h (Rt (zI (farZ (q 2 i) (q 3 i) (q 2 j) (q 3 j))) nx []) := by
  refine cx_of pnX3_cellsApart (Nat.le_of_ble_eq_true rfl) ?_
  intro K G hr hnm hR
  obtain ⟨h2, h3, h4, h5, h6, h7, h8, h9, h10⟩ := id hQ
  have hn40 := hO.1
  show Wp K 3 (Mx K h (Rt (zI (farZ (q 2 i) (q 3 i) (q 2 j) (q 3 j))) nx []) (0, 0)) (0, 0) 0 [(0, zR 2), (1, zI ((i : Nat) : Int)), (2, zI ((j : Nat) : Int))] [] (nx, h, [])
  refine wp_aload_n G 0 dX3_cellsApart_0 rfl ?_
  refine wp_get G 3 cOk5 fX3_122 dX3_cellsApart_1 h2 rfl ?_
  refine wp_iload_n G 1 dX3_cellsApart_4 rfl ?_
  refine wp_iald (j := i) G dX3_cellsApart_5 h5 rfl (by omega) (by decide) ?_
  have rrq1 := hO.x i (by omega)
  refine wp_aload_n G 0 dX3_cellsApart_6 rfl ?_
  refine wp_get G 4 cOk5 fX3_125 dX3_cellsApart_7 h2 rfl ?_
  refine wp_iload_n G 1 dX3_cellsApart_10 rfl ?_
  refine wp_iald (j := i) G dX3_cellsApart_11 h6 rfl (by omega) (by decide) ?_
  have rrq2 := hO.y i (by omega)
  refine wp_aload_n G 0 dX3_cellsApart_12 rfl ?_
  refine wp_get G 3 cOk5 fX3_122 dX3_cellsApart_13 h2 rfl ?_
  refine wp_iload_n G 2 dX3_cellsApart_16 rfl ?_
  refine wp_iald (j := j) G dX3_cellsApart_17 h5 rfl (by omega) (by decide) ?_
  have rrq3 := hO.x j (by omega)
  refine wp_aload_n G 0 dX3_cellsApart_18 rfl ?_
  refine wp_get G 4 cOk5 fX3_125 dX3_cellsApart_19 h2 rfl ?_
  refine wp_iload_n G 2 dX3_cellsApart_22 rfl ?_
  refine wp_iald (j := j) G dX3_cellsApart_23 h6 rfl (by omega) (by decide) ?_
  have rrq4 := hO.y j (by omega)
  refine wp_cSE (as := [zI ((q 2) i), zI ((q 3) i), zI ((q 2) j), zI ((q 3) j)]) (rest := []) (hp2 := (nx, h, [])) G mX9_howFar lX3_128 sX9_howFar dX3_cellsApart_24 rfl rfl (Nat.le_of_ble_eq_true rfl) (rmx_ok hR (by decide) (by decide) (by decide) (by decide)) (t_X9_howFar (nx := nx) (a := ((q 2) i)) (b := ((q 3) i)) (c := ((q 2) j)) (e := ((q 3) j)) (hO.x i (by omega)) (hO.y i (by omega)) (hO.x j (by omega)) (hO.y j (by omega))) rfl ?_
  exact wp_ireturn G hr dX3_cellsApart_27 ⟨by rfl, rfl, by rfl⟩

set_option maxRecDepth 100000 in
set_option maxHeartbeats 4000000 in
theorem t_X3_missOf {nx : Nat} {h : Nat → Option PC} {n : Nat} {q : Nat → Nat → Int} {o : Nat → Nat} {i : Nat} {j : Nat} (hQ : isQ h n q o) (hO : okQ n q o) (hi : i < n) (hj : j < n) : Cx 3 (0, 0) yX3_missOf cX3_missOf 3 (some .int) [zR 2, zI ((i : Nat) : Int), zI ((j : Nat) : Int)] nx h (Rt (zI ((if 0 ≤ (q 1 i - q 1 j) then (q 1 i - q 1 j) else -(q 1 i - q 1 j)) + (farZ (q 2 i) (q 3 i) (q 2 j) (q 3 j)) + (if 0 ≤ (q 4 i - q 4 j) then (q 4 i - q 4 j) else -(q 4 i - q 4 j)))) nx []) := by
  refine cx_of pnX3_missOf (Nat.le_of_ble_eq_true rfl) ?_
  intro K G hr hnm hR
  obtain ⟨h2, h3, h4, h5, h6, h7, h8, h9, h10⟩ := id hQ
  have hn40 := hO.1
  have hf1 := farZ_b (hO.x i (by omega)) (hO.y i (by omega)) (hO.x j (by omega)) (hO.y j (by omega))
  have hd1 := hO.d i (by omega)
  have hd2 := hO.d j (by omega)
  have hg1 := hO.g i (by omega)
  have hg2 := hO.g j (by omega)
  have ha1 : 0 ≤ (if 0 ≤ (q 1 i - q 1 j) then (q 1 i - q 1 j) else -(q 1 i - q 1 j)) ∧ (if 0 ≤ (q 1 i - q 1 j) then (q 1 i - q 1 j) else -(q 1 i - q 1 j)) ≤ 3999 := by split <;> omega
  have ha2 : 0 ≤ (if 0 ≤ (q 4 i - q 4 j) then (q 4 i - q 4 j) else -(q 4 i - q 4 j)) ∧ (if 0 ≤ (q 4 i - q 4 j) then (q 4 i - q 4 j) else -(q 4 i - q 4 j)) ≤ 90 := by split <;> omega
  show Wp K 3 (Mx K h (Rt (zI ((if 0 ≤ (q 1 i - q 1 j) then (q 1 i - q 1 j) else -(q 1 i - q 1 j)) + (farZ (q 2 i) (q 3 i) (q 2 j) (q 3 j)) + (if 0 ≤ (q 4 i - q 4 j) then (q 4 i - q 4 j) else -(q 4 i - q 4 j)))) nx []) (0, 0)) (0, 0) 0 [(0, zR 2), (1, zI ((i : Nat) : Int)), (2, zI ((j : Nat) : Int))] [] (nx, h, [])
  refine wp_aload_n G 0 dX3_missOf_0 rfl ?_
  refine wp_iload_n G 1 dX3_missOf_1 rfl ?_
  refine wp_iload_n G 2 dX3_missOf_2 rfl ?_
  refine wp_cSE (as := [zR 2, zI ((i : Nat) : Int), zI ((j : Nat) : Int)]) (rest := []) (hp2 := (nx, h, [])) G mX3_daysApart lX3_104 sX3_daysApart dX3_missOf_3 rfl rfl (Nat.le_of_ble_eq_true rfl) (rmx_ok hR (by decide) (by decide) (by decide) (by decide)) (t_X3_daysApart (nx := nx) (i := i) (j := j) hQ hO hi hj) rfl ?_
  refine wp_aload_n G 0 dX3_missOf_6 rfl ?_
  refine wp_iload_n G 1 dX3_missOf_7 rfl ?_
  refine wp_iload_n G 2 dX3_missOf_8 rfl ?_
  refine wp_cSE (as := [zR 2, zI ((i : Nat) : Int), zI ((j : Nat) : Int)]) (rest := [zI (if 0 ≤ (q 1 i - q 1 j) then (q 1 i - q 1 j) else -(q 1 i - q 1 j))]) (hp2 := (nx, h, [])) G mX3_cellsApart lX3_107 sX3_cellsApart dX3_missOf_9 rfl rfl (Nat.le_of_ble_eq_true rfl) (rmx_ok hR (by decide) (by decide) (by decide) (by decide)) (t_X3_cellsApart (nx := nx) (i := i) (j := j) hQ hO hi hj) rfl ?_
  refine wp_iadd G dX3_missOf_12 ?_
  refine wp_aload_n G 0 dX3_missOf_13 rfl ?_
  refine wp_iload_n G 1 dX3_missOf_14 rfl ?_
  refine wp_iload_n G 2 dX3_missOf_15 rfl ?_
  refine wp_cSE (as := [zR 2, zI ((i : Nat) : Int), zI ((j : Nat) : Int)]) (rest := [zI ((if 0 ≤ (q 1 i - q 1 j) then (q 1 i - q 1 j) else -(q 1 i - q 1 j)) + (farZ (q 2 i) (q 3 i) (q 2 j) (q 3 j)))]) (hp2 := (nx, h, [])) G mX3_tenthsApart lX3_110 sX3_tenthsApart dX3_missOf_16 rfl rfl (Nat.le_of_ble_eq_true rfl) (rmx_ok hR (by decide) (by decide) (by decide) (by decide)) (t_X3_tenthsApart (nx := nx) (i := i) (j := j) hQ hO hi hj) rfl ?_
  refine wp_iadd G dX3_missOf_19 ?_
  exact wp_ireturn G hr dX3_missOf_20 ⟨by rfl, rfl, by rfl⟩

set_option maxRecDepth 100000 in
set_option maxHeartbeats 4000000 in
theorem t_X3_maySame {nx : Nat} {h : Nat → Option PC} {n : Nat} {q : Nat → Nat → Int} {o : Nat → Nat} {i : Nat} {j : Nat} {dd : Int} {ff : Int} {tt : Int} (hQ : isQ h n q o) (hO : okQ n q o) (hi : i < n) (hj : j < n) (ri_dd : r32 dd) (ri_ff : r32 ff) (ri_tt : r32 tt) : Cx 3 (0, 0) yX3_maySame cX3_maySame 6 (some .boolean) [zR 2, zI ((i : Nat) : Int), zI ((j : Nat) : Int), zI dd, zI ff, zI tt] nx h (Rt (zI (bt ((if 0 ≤ (q 1 i - q 1 j) then (q 1 i - q 1 j) else -(q 1 i - q 1 j)) ≤ dd ∧ (farZ (q 2 i) (q 3 i) (q 2 j) (q 3 j)) ≤ ff ∧ (if 0 ≤ (q 4 i - q 4 j) then (q 4 i - q 4 j) else -(q 4 i - q 4 j)) ≤ tt))) nx []) := by
  refine cx_of pnX3_maySame (Nat.le_of_ble_eq_true rfl) ?_
  intro K G hr hnm hR
  obtain ⟨h2, h3, h4, h5, h6, h7, h8, h9, h10⟩ := id hQ
  have hn40 := hO.1
  have hf1 := farZ_b (hO.x i (by omega)) (hO.y i (by omega)) (hO.x j (by omega)) (hO.y j (by omega))
  have hd1 := hO.d i (by omega)
  have hd2 := hO.d j (by omega)
  have hg1 := hO.g i (by omega)
  have hg2 := hO.g j (by omega)
  have ha1 : 0 ≤ (if 0 ≤ (q 1 i - q 1 j) then (q 1 i - q 1 j) else -(q 1 i - q 1 j)) ∧ (if 0 ≤ (q 1 i - q 1 j) then (q 1 i - q 1 j) else -(q 1 i - q 1 j)) ≤ 3999 := by split <;> omega
  have ha2 : 0 ≤ (if 0 ≤ (q 4 i - q 4 j) then (q 4 i - q 4 j) else -(q 4 i - q 4 j)) ∧ (if 0 ≤ (q 4 i - q 4 j) then (q 4 i - q 4 j) else -(q 4 i - q 4 j)) ≤ 90 := by split <;> omega
  show Wp K 6 (Mx K h (Rt (zI (bt ((if 0 ≤ (q 1 i - q 1 j) then (q 1 i - q 1 j) else -(q 1 i - q 1 j)) ≤ dd ∧ (farZ (q 2 i) (q 3 i) (q 2 j) (q 3 j)) ≤ ff ∧ (if 0 ≤ (q 4 i - q 4 j) then (q 4 i - q 4 j) else -(q 4 i - q 4 j)) ≤ tt))) nx []) (0, 0)) (0, 0) 0 [(0, zR 2), (1, zI ((i : Nat) : Int)), (2, zI ((j : Nat) : Int)), (3, zI dd), (4, zI ff), (5, zI tt)] [] (nx, h, [])
  refine wp_aload_n G 0 dX3_maySame_0 rfl ?_
  refine wp_iload_n G 1 dX3_maySame_1 rfl ?_
  refine wp_iload_n G 2 dX3_maySame_2 rfl ?_
  refine wp_cSE (as := [zR 2, zI ((i : Nat) : Int), zI ((j : Nat) : Int)]) (rest := []) (hp2 := (nx, h, [])) G mX3_daysApart lX3_104 sX3_daysApart dX3_maySame_3 rfl rfl (Nat.le_of_ble_eq_true rfl) (rmx_ok hR (by decide) (by decide) (by decide) (by decide)) (t_X3_daysApart (nx := nx) (i := i) (j := j) hQ hO hi hj) rfl ?_
  refine wp_iload_n G 3 dX3_maySame_6 rfl ?_
  refine wp_icmp_gt G dX3_maySame_7 (by omega) (by omega) (fun kq1 => ?_) (fun kq1 => ?_)
  · skip
    refine wp_iconst G dX3_maySame_36 ?_
    exact wp_zreturn G (by omega) hr dX3_maySame_37 ⟨by first | exact congrArg (fun z => some (zI z)) (bt_1 ⟨by assumption, by assumption, by assumption⟩).symm | exact congrArg (fun z => some (zI z)) (bt_0 (fun z => by have z1 := z.1; have z2 := z.2.1; have z3 := z.2.2; omega)).symm, rfl, by rfl⟩
  · skip
    refine wp_aload_n G 0 dX3_maySame_10 rfl ?_
    refine wp_iload_n G 1 dX3_maySame_11 rfl ?_
    refine wp_iload_n G 2 dX3_maySame_12 rfl ?_
    refine wp_cSE (as := [zR 2, zI ((i : Nat) : Int), zI ((j : Nat) : Int)]) (rest := []) (hp2 := (nx, h, [])) G mX3_cellsApart lX3_107 sX3_cellsApart dX3_maySame_13 rfl rfl (Nat.le_of_ble_eq_true rfl) (rmx_ok hR (by decide) (by decide) (by decide) (by decide)) (t_X3_cellsApart (nx := nx) (i := i) (j := j) hQ hO hi hj) rfl ?_
    refine wp_iload G 4 dX3_maySame_16 rfl ?_
    refine wp_icmp_gt G dX3_maySame_18 (by omega) (by omega) (fun kq2 => ?_) (fun kq2 => ?_)
    · skip
      refine wp_iconst G dX3_maySame_36 ?_
      exact wp_zreturn G (by omega) hr dX3_maySame_37 ⟨by first | exact congrArg (fun z => some (zI z)) (bt_1 ⟨by assumption, by assumption, by assumption⟩).symm | exact congrArg (fun z => some (zI z)) (bt_0 (fun z => by have z1 := z.1; have z2 := z.2.1; have z3 := z.2.2; omega)).symm, rfl, by rfl⟩
    · skip
      refine wp_aload_n G 0 dX3_maySame_21 rfl ?_
      refine wp_iload_n G 1 dX3_maySame_22 rfl ?_
      refine wp_iload_n G 2 dX3_maySame_23 rfl ?_
      refine wp_cSE (as := [zR 2, zI ((i : Nat) : Int), zI ((j : Nat) : Int)]) (rest := []) (hp2 := (nx, h, [])) G mX3_tenthsApart lX3_110 sX3_tenthsApart dX3_maySame_24 rfl rfl (Nat.le_of_ble_eq_true rfl) (rmx_ok hR (by decide) (by decide) (by decide) (by decide)) (t_X3_tenthsApart (nx := nx) (i := i) (j := j) hQ hO hi hj) rfl ?_
      refine wp_iload G 5 dX3_maySame_27 rfl ?_
      refine wp_icmp_gt G dX3_maySame_29 (by omega) (by omega) (fun kq3 => ?_) (fun kq3 => ?_)
      · skip
        refine wp_iconst G dX3_maySame_36 ?_
        exact wp_zreturn G (by omega) hr dX3_maySame_37 ⟨by first | exact congrArg (fun z => some (zI z)) (bt_1 ⟨by assumption, by assumption, by assumption⟩).symm | exact congrArg (fun z => some (zI z)) (bt_0 (fun z => by have z1 := z.1; have z2 := z.2.1; have z3 := z.2.2; omega)).symm, rfl, by rfl⟩
      · skip
        refine wp_iconst G dX3_maySame_32 ?_
        refine wp_goto G dX3_maySame_33 ?_
        exact wp_zreturn G (by omega) hr dX3_maySame_37 ⟨by first | exact congrArg (fun z => some (zI z)) (bt_1 ⟨by assumption, by assumption, by assumption⟩).symm | exact congrArg (fun z => some (zI z)) (bt_0 (fun z => by have z1 := z.1; have z2 := z.2.1; have z3 := z.2.2; omega)).symm, rfl, by rfl⟩

set_option maxRecDepth 100000 in
set_option maxHeartbeats 4000000 in
theorem t_X3_gatherA {nx : Nat} {h : Nat → Option PC} {n : Nat} {q : Nat → Nat → Int} {o : Nat → Nat} {a : Int} {B0 : Nat → Int} (hQ : isQ h n q o) (hO : okQ n q o) (hB0 : h 12 = some (oA 0 12 B0)) (ri_a : r32 a) (hc12 : cN q a n ≤ 12) : Cx 0 (0, 0) yX3_gather cX3_gather 5 (some .int) [zR 2, zI a, zR 12] nx h (fun rr nx' l' => ∃ (R : Nat → Int), (∀ j, j < n → q 0 j = a → cN q a j < 12 → R (cN q a j) = ((j : Nat) : Int)) ∧ rr = some (zI ((cN q a n : Nat) : Int)) ∧ nx' = nx ∧ l' = [(12, oA 0 12 R)]) := by
  refine cx_of pnX3_gather (Nat.le_of_ble_eq_true rfl) ?_
  intro K G hr hnm hR
  obtain ⟨h2, h3, h4, h5, h6, h7, h8, h9, h10⟩ := id hQ
  have hn40 := hO.1
  show Wp K 5 (Mx K h (fun rr nx' l' => ∃ (R : Nat → Int), (∀ j, j < n → q 0 j = a → cN q a j < 12 → R (cN q a j) = ((j : Nat) : Int)) ∧ rr = some (zI ((cN q a n : Nat) : Int)) ∧ nx' = nx ∧ l' = [(12, oA 0 12 R)]) (0, 0)) (0, 0) 0 [(0, zR 2), (1, zI a), (2, zR 12)] [] (nx, h, [])
  refine wp_iconst G dX3_gather_0 ?_
  refine wp_istore_n (lv' := [(3, zI 0), (0, zR 2), (1, zI a), (2, zR 12)]) G dX3_gather_1 (by decide) rfl ?_
  refine wp_iconst G dX3_gather_2 ?_
  refine wp_istore (lv' := [(4, zI 0), (3, zI 0), (0, zR 2), (1, zI a), (2, zR 12)]) G dX3_gather_3 (by decide) rfl ?_
  refine wp_own (r := 12) (hp2 := (nx, h, [(12, oA 0 12 B0)])) hB0 rfl ?_
  refine wp_lv [2, 3, 4, 1, 0] rfl ?_
  suffices lp5 : ∀ (fu : Nat) (i : Nat) (R : Nat → Int) (v3 : Int) (v4 : Int), n - i < fu → (v3 = ((cN q a i : Nat) : Int)) → (v4 = ((i : Nat) : Int)) → (i ≤ n) → (cN q a i ≤ 12) → (∀ j, j < i → q 0 j = a → cN q a j < 12 → R (cN q a j) = ((j : Nat) : Int)) → Wp K 5 (Mx K h (fun rr nx' l' => ∃ (R : Nat → Int), (∀ j, j < n → q 0 j = a → cN q a j < 12 → R (cN q a j) = ((j : Nat) : Int)) ∧ rr = some (zI ((cN q a n : Nat) : Int)) ∧ nx' = nx ∧ l' = [(12, oA 0 12 R)]) (0, 0)) (0, 0) 5 [(0, zR 2), (1, zI a), (2, zR 12), (3, zI v3), (4, zI v4)] [] (nx, h, [(12, oA 0 12 R)]) from lp5 _ 0 B0 0 0 (Nat.lt_succ_self _) (by rfl) (by omega) (by omega) (by exact Nat.zero_le _) (by intro j hj; omega)
  intro fu
  induction fu with
  | zero => intro i R v3 v4 hm; exact absurd hm (Nat.not_lt_zero _)
  | succ fu ih5 =>
    intro i R v3 v4 hm5 e3 e4 hi0 hc hR
    subst e3
    subst e4
    have hcl := cN_le q a i
    refine wp_iload G 4 dX3_gather_5 rfl ?_
    refine wp_aload_n G 0 dX3_gather_7 rfl ?_
    refine wp_get G 0 cOk5 fX3_78 dX3_gather_8 h2 rfl ?_
    refine wp_icmp_ge G dX3_gather_11 (by omega) (by omega) (fun kq1 => ?_) (fun kq1 => ?_)
    · skip
      refine wp_iload_n G 3 dX3_gather_45 rfl ?_
      exact wp_ireturn G hr dX3_gather_46 ⟨R, by exact cN_all hR hc12 (by omega), by rw [cN_end hc12 (by omega) (by omega)], rfl, by rfl⟩
    · skip
      refine wp_iload_n G 3 dX3_gather_14 rfl ?_
      refine wp_bipush G dX3_gather_15 (by decide) ?_
      refine wp_icmp_ge G dX3_gather_17 (by omega) (by omega) (fun kq2 => ?_) (fun kq2 => ?_)
      · skip
        refine wp_iload_n G 3 dX3_gather_45 rfl ?_
        exact wp_ireturn G hr dX3_gather_46 ⟨R, by exact cN_all hR hc12 (by omega), by rw [cN_end hc12 (by omega) (by omega)], rfl, by rfl⟩
      · skip
        refine wp_aload_n G 0 dX3_gather_20 rfl ?_
        refine wp_get G 1 cOk5 fX3_83 dX3_gather_21 h2 rfl ?_
        refine wp_iload G 4 dX3_gather_24 rfl ?_
        refine wp_iald (j := i) G dX3_gather_26 h3 rfl (by omega) (by decide) ?_
        have rrq1 := hO.l i (by omega)
        refine wp_iload_n G 1 dX3_gather_27 rfl ?_
        refine wp_icmp_ne G dX3_gather_28 (by omega) (by omega) (fun kq3 => ?_) (fun kq3 => ?_)
        · skip
          refine wp_iinc (lv' := [(4, zI (((i : Nat) : Int) + 1)), (0, zR 2), (1, zI a), (2, zR 12), (3, zI ((cN q a i : Nat) : Int))]) G 4 dX3_gather_39 rfl (by decide) rfl ?_
          refine wp_goto G dX3_gather_42 ?_
          refine wp_lv [1, 2, 3, 4, 0] rfl ?_
          exact ih5 (i + 1) R ((cN q a i : Nat) : Int) (((i : Nat) : Int) + 1) (by omega) (by first | (rw [cN_y (by omega)]; rfl) | (rw [cN_n (by omega)])) (by omega) (by omega) (by first | (rw [cN_y (by omega)]; omega) | (rw [cN_n (by omega)]; omega)) (by first | (exact cN_put hR) | (exact cN_no hR (Or.inl (by omega))))
        · skip
          refine wp_aload_n G 2 dX3_gather_31 rfl ?_
          refine wp_iload_n G 3 dX3_gather_32 rfl ?_
          refine wp_iload G 4 dX3_gather_33 rfl ?_
          refine wp_iastE (j := cN q a i) (hp2 := (nx, h, [(12, oA 0 12 (fup R (cN q a i) ((i : Nat) : Int)))])) G dX3_gather_35 rfl rfl (by omega) (by decide) rfl ?_
          refine wp_iinc (lv' := [(3, zI (((cN q a i : Nat) : Int) + 1)), (0, zR 2), (1, zI a), (2, zR 12), (4, zI ((i : Nat) : Int))]) G 3 dX3_gather_36 rfl (by decide) rfl ?_
          refine wp_iinc (lv' := [(4, zI (((i : Nat) : Int) + 1)), (3, zI (((cN q a i : Nat) : Int) + 1)), (0, zR 2), (1, zI a), (2, zR 12)]) G 4 dX3_gather_39 rfl (by decide) rfl ?_
          refine wp_goto G dX3_gather_42 ?_
          refine wp_lv [2, 3, 4, 1, 0] rfl ?_
          exact ih5 (i + 1) (fup R (cN q a i) ((i : Nat) : Int)) (((cN q a i : Nat) : Int) + 1) (((i : Nat) : Int) + 1) (by omega) (by first | (rw [cN_y (by omega)]; rfl) | (rw [cN_n (by omega)])) (by omega) (by omega) (by first | (rw [cN_y (by omega)]; omega) | (rw [cN_n (by omega)]; omega)) (by first | (exact cN_put hR) | (exact cN_no hR (Or.inl (by omega))))

set_option maxRecDepth 100000 in
set_option maxHeartbeats 4000000 in
theorem t_X3_gatherB {nx : Nat} {h : Nat → Option PC} {n : Nat} {q : Nat → Nat → Int} {o : Nat → Nat} {a : Int} {B0 : Nat → Int} (hQ : isQ h n q o) (hO : okQ n q o) (hB0 : h 13 = some (oA 0 12 B0)) (ri_a : r32 a) (hc12 : cN q a n ≤ 12) : Cx 0 (0, 0) yX3_gather cX3_gather 5 (some .int) [zR 2, zI a, zR 13] nx h (fun rr nx' l' => ∃ (R : Nat → Int), (∀ j, j < n → q 0 j = a → cN q a j < 12 → R (cN q a j) = ((j : Nat) : Int)) ∧ rr = some (zI ((cN q a n : Nat) : Int)) ∧ nx' = nx ∧ l' = [(13, oA 0 12 R)]) := by
  refine cx_of pnX3_gather (Nat.le_of_ble_eq_true rfl) ?_
  intro K G hr hnm hR
  obtain ⟨h2, h3, h4, h5, h6, h7, h8, h9, h10⟩ := id hQ
  have hn40 := hO.1
  show Wp K 5 (Mx K h (fun rr nx' l' => ∃ (R : Nat → Int), (∀ j, j < n → q 0 j = a → cN q a j < 12 → R (cN q a j) = ((j : Nat) : Int)) ∧ rr = some (zI ((cN q a n : Nat) : Int)) ∧ nx' = nx ∧ l' = [(13, oA 0 12 R)]) (0, 0)) (0, 0) 0 [(0, zR 2), (1, zI a), (2, zR 13)] [] (nx, h, [])
  refine wp_iconst G dX3_gather_0 ?_
  refine wp_istore_n (lv' := [(3, zI 0), (0, zR 2), (1, zI a), (2, zR 13)]) G dX3_gather_1 (by decide) rfl ?_
  refine wp_iconst G dX3_gather_2 ?_
  refine wp_istore (lv' := [(4, zI 0), (3, zI 0), (0, zR 2), (1, zI a), (2, zR 13)]) G dX3_gather_3 (by decide) rfl ?_
  refine wp_own (r := 13) (hp2 := (nx, h, [(13, oA 0 12 B0)])) hB0 rfl ?_
  refine wp_lv [2, 3, 4, 1, 0] rfl ?_
  suffices lp5 : ∀ (fu : Nat) (i : Nat) (R : Nat → Int) (v3 : Int) (v4 : Int), n - i < fu → (v3 = ((cN q a i : Nat) : Int)) → (v4 = ((i : Nat) : Int)) → (i ≤ n) → (cN q a i ≤ 12) → (∀ j, j < i → q 0 j = a → cN q a j < 12 → R (cN q a j) = ((j : Nat) : Int)) → Wp K 5 (Mx K h (fun rr nx' l' => ∃ (R : Nat → Int), (∀ j, j < n → q 0 j = a → cN q a j < 12 → R (cN q a j) = ((j : Nat) : Int)) ∧ rr = some (zI ((cN q a n : Nat) : Int)) ∧ nx' = nx ∧ l' = [(13, oA 0 12 R)]) (0, 0)) (0, 0) 5 [(0, zR 2), (1, zI a), (2, zR 13), (3, zI v3), (4, zI v4)] [] (nx, h, [(13, oA 0 12 R)]) from lp5 _ 0 B0 0 0 (Nat.lt_succ_self _) (by rfl) (by omega) (by omega) (by exact Nat.zero_le _) (by intro j hj; omega)
  intro fu
  induction fu with
  | zero => intro i R v3 v4 hm; exact absurd hm (Nat.not_lt_zero _)
  | succ fu ih5 =>
    intro i R v3 v4 hm5 e3 e4 hi0 hc hR
    subst e3
    subst e4
    have hcl := cN_le q a i
    refine wp_iload G 4 dX3_gather_5 rfl ?_
    refine wp_aload_n G 0 dX3_gather_7 rfl ?_
    refine wp_get G 0 cOk5 fX3_78 dX3_gather_8 h2 rfl ?_
    refine wp_icmp_ge G dX3_gather_11 (by omega) (by omega) (fun kq1 => ?_) (fun kq1 => ?_)
    · skip
      refine wp_iload_n G 3 dX3_gather_45 rfl ?_
      exact wp_ireturn G hr dX3_gather_46 ⟨R, by exact cN_all hR hc12 (by omega), by rw [cN_end hc12 (by omega) (by omega)], rfl, by rfl⟩
    · skip
      refine wp_iload_n G 3 dX3_gather_14 rfl ?_
      refine wp_bipush G dX3_gather_15 (by decide) ?_
      refine wp_icmp_ge G dX3_gather_17 (by omega) (by omega) (fun kq2 => ?_) (fun kq2 => ?_)
      · skip
        refine wp_iload_n G 3 dX3_gather_45 rfl ?_
        exact wp_ireturn G hr dX3_gather_46 ⟨R, by exact cN_all hR hc12 (by omega), by rw [cN_end hc12 (by omega) (by omega)], rfl, by rfl⟩
      · skip
        refine wp_aload_n G 0 dX3_gather_20 rfl ?_
        refine wp_get G 1 cOk5 fX3_83 dX3_gather_21 h2 rfl ?_
        refine wp_iload G 4 dX3_gather_24 rfl ?_
        refine wp_iald (j := i) G dX3_gather_26 h3 rfl (by omega) (by decide) ?_
        have rrq1 := hO.l i (by omega)
        refine wp_iload_n G 1 dX3_gather_27 rfl ?_
        refine wp_icmp_ne G dX3_gather_28 (by omega) (by omega) (fun kq3 => ?_) (fun kq3 => ?_)
        · skip
          refine wp_iinc (lv' := [(4, zI (((i : Nat) : Int) + 1)), (0, zR 2), (1, zI a), (2, zR 13), (3, zI ((cN q a i : Nat) : Int))]) G 4 dX3_gather_39 rfl (by decide) rfl ?_
          refine wp_goto G dX3_gather_42 ?_
          refine wp_lv [1, 2, 3, 4, 0] rfl ?_
          exact ih5 (i + 1) R ((cN q a i : Nat) : Int) (((i : Nat) : Int) + 1) (by omega) (by first | (rw [cN_y (by omega)]; rfl) | (rw [cN_n (by omega)])) (by omega) (by omega) (by first | (rw [cN_y (by omega)]; omega) | (rw [cN_n (by omega)]; omega)) (by first | (exact cN_put hR) | (exact cN_no hR (Or.inl (by omega))))
        · skip
          refine wp_aload_n G 2 dX3_gather_31 rfl ?_
          refine wp_iload_n G 3 dX3_gather_32 rfl ?_
          refine wp_iload G 4 dX3_gather_33 rfl ?_
          refine wp_iastE (j := cN q a i) (hp2 := (nx, h, [(13, oA 0 12 (fup R (cN q a i) ((i : Nat) : Int)))])) G dX3_gather_35 rfl rfl (by omega) (by decide) rfl ?_
          refine wp_iinc (lv' := [(3, zI (((cN q a i : Nat) : Int) + 1)), (0, zR 2), (1, zI a), (2, zR 13), (4, zI ((i : Nat) : Int))]) G 3 dX3_gather_36 rfl (by decide) rfl ?_
          refine wp_iinc (lv' := [(4, zI (((i : Nat) : Int) + 1)), (3, zI (((cN q a i : Nat) : Int) + 1)), (0, zR 2), (1, zI a), (2, zR 13)]) G 4 dX3_gather_39 rfl (by decide) rfl ?_
          refine wp_goto G dX3_gather_42 ?_
          refine wp_lv [2, 3, 4, 1, 0] rfl ?_
          exact ih5 (i + 1) (fup R (cN q a i) ((i : Nat) : Int)) (((cN q a i : Nat) : Int) + 1) (((i : Nat) : Int) + 1) (by omega) (by first | (rw [cN_y (by omega)]; rfl) | (rw [cN_n (by omega)])) (by omega) (by omega) (by first | (rw [cN_y (by omega)]; omega) | (rw [cN_n (by omega)]; omega)) (by first | (exact cN_put hR) | (exact cN_no hR (Or.inl (by omega))))

set_option maxRecDepth 100000 in
set_option maxHeartbeats 4000000 in
theorem t_X3_clearPrices {nx : Nat} {h : Nat → Option PC} {pa : Int} {mi : Int} {rw_ : Nat} {pt : Nat} {cl : Nat} {u : Nat → Int} {v : Nat → Int} {sl : Nat → Int} {ro : Nat → Int} {be : Nat → Int} {re : Nat → Int} (hJ : isJo h pa mi rw_ pt cl u v sl ro be re) (hrw : rw_ ≤ 12) (hcl : cl ≤ 24) (hre : ∀ j, j < 25 → re j = 0 ∨ re j = 1) : Cx 0 (0, 0) yX3_clearPrices cX3_clearPrices 2 none [zR 11] nx h (fun rr nx' l' => ∃ (U : Nat → Int) (V : Nat → Int) (R : Nat → Int), (∀ t, t < rw_ + 1 → U t = 0) ∧ (∀ t, t < cl + 1 → V t = 0) ∧ (∀ t, t < cl + 1 → R t = 0) ∧ rr = none ∧ nx' = nx ∧ l' = [(28, oL 2 13 U), (29, oL 2 25 V), (31, oA 0 25 R)]) := by
  refine cx_of pnX3_clearPrices (Nat.le_of_ble_eq_true rfl) ?_
  intro K G hr hnm hR
  obtain ⟨h11, h28, h29, h30, h31, h32, h33⟩ := id hJ
  show Wp K 2 (Mx K h (fun rr nx' l' => ∃ (U : Nat → Int) (V : Nat → Int) (R : Nat → Int), (∀ t, t < rw_ + 1 → U t = 0) ∧ (∀ t, t < cl + 1 → V t = 0) ∧ (∀ t, t < cl + 1 → R t = 0) ∧ rr = none ∧ nx' = nx ∧ l' = [(28, oL 2 13 U), (29, oL 2 25 V), (31, oA 0 25 R)]) (0, 0)) (0, 0) 0 [(0, zR 11)] [] (nx, h, [])
  refine wp_iconst G dX3_clearPrices_0 ?_
  refine wp_istore_n (lv' := [(1, zI 0), (0, zR 11)]) G dX3_clearPrices_1 (by decide) rfl ?_
  refine wp_own (r := 28) (hp2 := (nx, h, [(28, oL 2 13 u)])) h28 rfl ?_
  refine wp_lv [1, 0] rfl ?_
  suffices lp2 : ∀ (fu : Nat) (k : Nat) (U : Nat → Int) (v1 : Int), rw_ + 1 - k < fu → (v1 = ((k : Nat) : Int)) → (k ≤ rw_ + 1) → (∀ t, t < k → U t = 0) → Wp K 2 (Mx K h (fun rr nx' l' => ∃ (U : Nat → Int) (V : Nat → Int) (R : Nat → Int), (∀ t, t < rw_ + 1 → U t = 0) ∧ (∀ t, t < cl + 1 → V t = 0) ∧ (∀ t, t < cl + 1 → R t = 0) ∧ rr = none ∧ nx' = nx ∧ l' = [(28, oL 2 13 U), (29, oL 2 25 V), (31, oA 0 25 R)]) (0, 0)) (0, 0) 2 [(0, zR 11), (1, zI v1)] [] (nx, h, [(28, oL 2 13 U)]) from lp2 _ 0 u 0 (Nat.lt_succ_self _) (by omega) (by omega) (by intro t ht; omega)
  intro fu
  induction fu with
  | zero => intro k U v1 hm; exact absurd hm (Nat.not_lt_zero _)
  | succ fu ih2 =>
    intro k U v1 hm2 e1 hi0 hU
    subst e1
    refine wp_iload_n G 1 dX3_clearPrices_2 rfl ?_
    refine wp_aload_n G 0 dX3_clearPrices_3 rfl ?_
    refine wp_get G 2 cOk3 fX3_18 dX3_clearPrices_4 h11 rfl ?_
    refine wp_icmp_gt G dX3_clearPrices_7 (by omega) (by omega) (fun kq1 => ?_) (fun kq1 => ?_)
    · skip
      refine wp_iconst G dX3_clearPrices_23 ?_
      refine wp_istore_n (lv' := [(1, zI 0), (0, zR 11)]) G dX3_clearPrices_24 (by decide) rfl ?_
      refine wp_own (r := 29) (hp2 := (nx, h, [(28, oL 2 13 U), (29, oL 2 25 v)])) h29 rfl ?_
      refine wp_own (r := 31) (hp2 := (nx, h, [(28, oL 2 13 U), (29, oL 2 25 v), (31, oA 0 25 ro)])) h31 rfl ?_
      refine wp_lv [1, 0] rfl ?_
      suffices lp25 : ∀ (fu : Nat) (c : Nat) (V : Nat → Int) (R : Nat → Int) (v1 : Int), cl + 1 - c < fu → (v1 = ((c : Nat) : Int)) → (c ≤ cl + 1) → (∀ t, t < c → V t = 0) → (∀ t, t < c → R t = 0) → Wp K 2 (Mx K h (fun rr nx' l' => ∃ (U : Nat → Int) (V : Nat → Int) (R : Nat → Int), (∀ t, t < rw_ + 1 → U t = 0) ∧ (∀ t, t < cl + 1 → V t = 0) ∧ (∀ t, t < cl + 1 → R t = 0) ∧ rr = none ∧ nx' = nx ∧ l' = [(28, oL 2 13 U), (29, oL 2 25 V), (31, oA 0 25 R)]) (0, 0)) (0, 0) 25 [(0, zR 11), (1, zI v1)] [] (nx, h, [(28, oL 2 13 U), (29, oL 2 25 V), (31, oA 0 25 R)]) from lp25 _ 0 v ro 0 (Nat.lt_succ_self _) (by omega) (by omega) (by intro t ht; omega) (by intro t ht; omega)
      intro fu
      induction fu with
      | zero => intro c V R v1 hm; exact absurd hm (Nat.not_lt_zero _)
      | succ fu ih25 =>
        intro c V R v1 hm25 e1 hi0 hV hRo
        subst e1
        refine wp_iload_n G 1 dX3_clearPrices_25 rfl ?_
        refine wp_aload_n G 0 dX3_clearPrices_26 rfl ?_
        refine wp_get G 4 cOk3 fX3_24 dX3_clearPrices_27 h11 rfl ?_
        refine wp_icmp_gt G dX3_clearPrices_30 (by omega) (by omega) (fun kq2 => ?_) (fun kq2 => ?_)
        · skip
          exact wp_vreturn G hr dX3_clearPrices_53 ⟨U, V, R, by rw [← show k = rw_ + 1 by omega]; exact hU, by rw [← show c = cl + 1 by omega]; exact hV, by rw [← show c = cl + 1 by omega]; exact hRo, rfl, rfl, by rfl⟩
        · skip
          refine wp_aload_n G 0 dX3_clearPrices_33 rfl ?_
          refine wp_get G 9 cOk3 fX3_43 dX3_clearPrices_34 h11 rfl ?_
          refine wp_iload_n G 1 dX3_clearPrices_37 rfl ?_
          refine wp_lconst (z := 0) G dX3_clearPrices_38 (by decide) ?_
          refine wp_lastE (j := c) (hp2 := (nx, h, [(28, oL 2 13 U), (29, oL 2 25 (fup V c 0)), (31, oA 0 25 R)])) G dX3_clearPrices_39 rfl rfl (by omega) (by decide) rfl ?_
          refine wp_aload_n G 0 dX3_clearPrices_40 rfl ?_
          refine wp_get G 11 cOk3 fX3_49 dX3_clearPrices_41 h11 rfl ?_
          refine wp_iload_n G 1 dX3_clearPrices_44 rfl ?_
          refine wp_iconst G dX3_clearPrices_45 ?_
          refine wp_iastE (j := c) (hp2 := (nx, h, [(28, oL 2 13 U), (29, oL 2 25 (fup V c 0)), (31, oA 0 25 (fup R c 0))])) G dX3_clearPrices_46 rfl rfl (by omega) (by decide) rfl ?_
          refine wp_iinc (lv' := [(1, zI (((c : Nat) : Int) + 1)), (0, zR 11)]) G 1 dX3_clearPrices_47 rfl (by decide) rfl ?_
          refine wp_goto G dX3_clearPrices_50 ?_
          refine wp_lv [1, 0] rfl ?_
          exact ih25 (c + 1) (fup V c 0) (fup R c 0) (((c : Nat) : Int) + 1) (by omega) (by omega) (by omega) (by exact t0_put hV) (by exact t0_put hRo)
    · skip
      refine wp_aload_n G 0 dX3_clearPrices_10 rfl ?_
      refine wp_get G 8 cOk3 fX3_39 dX3_clearPrices_11 h11 rfl ?_
      refine wp_iload_n G 1 dX3_clearPrices_14 rfl ?_
      refine wp_lconst (z := 0) G dX3_clearPrices_15 (by decide) ?_
      refine wp_lastE (j := k) (hp2 := (nx, h, [(28, oL 2 13 (fup U k 0))])) G dX3_clearPrices_16 rfl rfl (by omega) (by decide) rfl ?_
      refine wp_iinc (lv' := [(1, zI (((k : Nat) : Int) + 1)), (0, zR 11)]) G 1 dX3_clearPrices_17 rfl (by decide) rfl ?_
      refine wp_goto G dX3_clearPrices_20 ?_
      refine wp_lv [1, 0] rfl ?_
      exact ih2 (k + 1) (fup U k 0) (((k : Nat) : Int) + 1) (by omega) (by omega) (by omega) (by exact t0_put hU)

set_option maxRecDepth 100000 in
set_option maxHeartbeats 4000000 in
theorem t_X3_nearest {nx : Nat} {h : Nat → Option PC} {pa : Int} {mi : Int} {rw_ : Nat} {pt : Nat} {cl : Nat} {u : Nat → Int} {v : Nat → Int} {sl : Nat → Int} {ro : Nat → Int} {be : Nat → Int} {re : Nat → Int} (hJ : isJo h pa mi rw_ pt cl u v sl ro be re) (hrw : rw_ ≤ 12) (hcl : cl ≤ 24) (hre : ∀ j, j < 25 → re j = 0 ∨ re j = 1) (hsl : ∀ j, 1 ≤ j → j < cl + 1 → re j = 0 → r64 (sl j)) : Cx 0 (0, 0) yX3_nearest cX3_nearest 3 (some .int) [zR 11] nx h (Rt (zI ((nrF re sl cl : Nat) : Int)) nx []) := by
  refine cx_of pnX3_nearest (Nat.le_of_ble_eq_true rfl) ?_
  intro K G hr hnm hR
  obtain ⟨h11, h28, h29, h30, h31, h32, h33⟩ := id hJ
  show Wp K 3 (Mx K h (Rt (zI ((nrF re sl cl : Nat) : Int)) nx []) (0, 0)) (0, 0) 0 [(0, zR 11)] [] (nx, h, [])
  refine wp_iconst G dX3_nearest_0 ?_
  refine wp_istore_n (lv' := [(1, zI 0), (0, zR 11)]) G dX3_nearest_1 (by decide) rfl ?_
  refine wp_iconst G dX3_nearest_2 ?_
  refine wp_istore_n (lv' := [(2, zI 1), (1, zI 0), (0, zR 11)]) G dX3_nearest_3 (by decide) rfl ?_
  refine wp_lv [2, 1, 0] rfl ?_
  suffices lp4 : ∀ (fu : Nat) (k : Nat) (v1 : Int) (v2 : Int), cl - k < fu → (v1 = ((nrF re sl k : Nat) : Int)) → (v2 = ((k + 1 : Nat) : Int)) → (k ≤ cl) → Wp K 3 (Mx K h (Rt (zI ((nrF re sl cl : Nat) : Int)) nx []) (0, 0)) (0, 0) 4 [(0, zR 11), (1, zI v1), (2, zI v2)] [] (nx, h, []) from lp4 _ 0 0 1 (Nat.lt_succ_self _) (by rfl) (by omega) (by omega)
  intro fu
  induction fu with
  | zero => intro k v1 v2 hm; exact absurd hm (Nat.not_lt_zero _)
  | succ fu ih4 =>
    intro k v1 v2 hm4 e1 e2 hi0
    subst e1
    subst e2
    have hnr := nrF_le re sl k
    have hnre := nrF_re re sl k
    have hs1 := hsl (k + 1)
    have hs2 := hsl (nrF re sl k)
    refine wp_iload_n G 2 dX3_nearest_4 rfl ?_
    refine wp_aload_n G 0 dX3_nearest_5 rfl ?_
    refine wp_get G 4 cOk3 fX3_24 dX3_nearest_6 h11 rfl ?_
    refine wp_icmp_gt G dX3_nearest_9 (by omega) (by omega) (fun kq1 => ?_) (fun kq1 => ?_)
    · skip
      refine wp_iload_n G 1 dX3_nearest_49 rfl ?_
      exact wp_ireturn G hr dX3_nearest_50 ⟨by rw [show k = cl by omega], rfl, by rfl⟩
    · skip
      refine wp_aload_n G 0 dX3_nearest_12 rfl ?_
      refine wp_get G 13 cOk3 fX3_55 dX3_nearest_13 h11 rfl ?_
      refine wp_iload_n G 2 dX3_nearest_16 rfl ?_
      refine wp_zald (j := k + 1) G dX3_nearest_17 h33 rfl (by omega) (by decide) ?_
      have rrq1 := hre (k + 1) (by omega)
      refine wp_if_ne G dX3_nearest_18 (by omega) (fun kq2 => ?_) (fun kq2 => ?_)
      · skip
        refine wp_iinc (lv' := [(2, zI (((k + 1 : Nat) : Int) + 1)), (0, zR 11), (1, zI ((nrF re sl k : Nat) : Int))]) G 2 dX3_nearest_43 rfl (by decide) rfl ?_
        refine wp_goto G dX3_nearest_46 ?_
        refine wp_lv [1, 2, 0] rfl ?_
        exact ih4 (k + 1) ((nrF re sl k : Nat) : Int) (((k + 1 : Nat) : Int) + 1) (by omega) (by first | (rw [nrF_y ⟨by omega, by omega⟩]; done) | (rw [nrF_n (by omega)])) (by omega) (by omega)
      · skip
        refine wp_iload_n G 1 dX3_nearest_21 rfl ?_
        refine wp_if_eq G dX3_nearest_22 (by omega) (fun kq3 => ?_) (fun kq3 => ?_)
        · skip
          refine wp_iload_n G 2 dX3_nearest_41 rfl ?_
          refine wp_istore_n (lv' := [(1, zI ((k + 1 : Nat) : Int)), (0, zR 11), (2, zI ((k + 1 : Nat) : Int))]) G dX3_nearest_42 (by decide) rfl ?_
          refine wp_iinc (lv' := [(2, zI (((k + 1 : Nat) : Int) + 1)), (1, zI ((k + 1 : Nat) : Int)), (0, zR 11)]) G 2 dX3_nearest_43 rfl (by decide) rfl ?_
          refine wp_goto G dX3_nearest_46 ?_
          refine wp_lv [2, 1, 0] rfl ?_
          exact ih4 (k + 1) ((k + 1 : Nat) : Int) (((k + 1 : Nat) : Int) + 1) (by omega) (by first | (rw [nrF_y ⟨by omega, by omega⟩]; done) | (rw [nrF_n (by omega)])) (by omega) (by omega)
        · skip
          refine wp_aload_n G 0 dX3_nearest_25 rfl ?_
          refine wp_get G 10 cOk3 fX3_46 dX3_nearest_26 h11 rfl ?_
          refine wp_iload_n G 2 dX3_nearest_29 rfl ?_
          refine wp_lald (j := k + 1) G dX3_nearest_30 h30 rfl (by omega) (by decide) ?_
          refine wp_aload_n G 0 dX3_nearest_31 rfl ?_
          refine wp_get G 10 cOk3 fX3_46 dX3_nearest_32 h11 rfl ?_
          refine wp_iload_n G 1 dX3_nearest_35 rfl ?_
          refine wp_lald (j := nrF re sl k) G dX3_nearest_36 h30 rfl (by omega) (by decide) ?_
          have hs1b := hs1 (by omega) (by omega) (by omega)
          have hs2b := hs2 (by omega) (by omega) (by omega)
          refine wp_lcmp G (by omega) (by omega) dX3_nearest_37 ?_
          refine wp_if_ge G dX3_nearest_38 (cmpZ_r _ _) (fun kq4 => ?_) (fun kq4 => ?_)
          · have kq4 : (sl (nrF re sl k)) ≤ (sl (k + 1)) := Int.not_lt.mp (fun z => absurd (cmpZ_lt.mpr z) (Int.not_lt.mpr kq4))
            refine wp_iinc (lv' := [(2, zI (((k + 1 : Nat) : Int) + 1)), (0, zR 11), (1, zI ((nrF re sl k : Nat) : Int))]) G 2 dX3_nearest_43 rfl (by decide) rfl ?_
            refine wp_goto G dX3_nearest_46 ?_
            refine wp_lv [1, 2, 0] rfl ?_
            exact ih4 (k + 1) ((nrF re sl k : Nat) : Int) (((k + 1 : Nat) : Int) + 1) (by omega) (by first | (rw [nrF_y ⟨by omega, by omega⟩]; done) | (rw [nrF_n (by omega)])) (by omega) (by omega)
          · have kq4 : (sl (k + 1)) < (sl (nrF re sl k)) := cmpZ_lt.mp kq4
            refine wp_iload_n G 2 dX3_nearest_41 rfl ?_
            refine wp_istore_n (lv' := [(1, zI ((k + 1 : Nat) : Int)), (0, zR 11), (2, zI ((k + 1 : Nat) : Int))]) G dX3_nearest_42 (by decide) rfl ?_
            refine wp_iinc (lv' := [(2, zI (((k + 1 : Nat) : Int) + 1)), (1, zI ((k + 1 : Nat) : Int)), (0, zR 11)]) G 2 dX3_nearest_43 rfl (by decide) rfl ?_
            refine wp_goto G dX3_nearest_46 ?_
            refine wp_lv [2, 1, 0] rfl ?_
            exact ih4 (k + 1) ((k + 1 : Nat) : Int) (((k + 1 : Nat) : Int) + 1) (by omega) (by first | (rw [nrF_y ⟨by omega, by omega⟩]; done) | (rw [nrF_n (by omega)])) (by omega) (by omega)

set_option maxRecDepth 100000 in
set_option maxHeartbeats 4000000 in
theorem t_X3_loosen {nx : Nat} {h : Nat → Option PC} {pa : Int} {mi : Int} {rw_ : Nat} {pt : Nat} {cl : Nat} {u : Nat → Int} {v : Nat → Int} {sl : Nat → Int} {ro : Nat → Int} {be : Nat → Int} {re : Nat → Int} {C : Nat → Nat → Int} {at_ : Nat} {i : Nat} (hJ : isJo h pa mi rw_ pt cl u v sl ro be re) (hrw : rw_ ≤ 12) (hcl : cl ≤ 24) (hre : ∀ j, j < 25 → re j = 0 ∨ re j = 1) (h14 : h 14 = some (oP 3 13 (fun i => some (15 + i)))) (hC : ∀ i, i < 13 → h (15 + i) = some (oL 2 25 (C i))) (hat : at_ < 25) (hro : ro at_ = ((i : Nat) : Int)) (hi : i < 13) (hsl : ∀ j, 1 ≤ j → j < cl + 1 → re j = 0 → r64 (sl j)) (hc : ∀ j, 1 ≤ j → j < cl + 1 → r64 (C i j - u i - v j)) : Cx 0 (0, 0) yX3_loosen cX3_loosen 6 none [zR 11, zI ((at_ : Nat) : Int)] nx h (Rn nx [(30, oL 2 25 (lsS (fun j => C i j - u i - v j) re sl cl)), (32, oA 0 25 (lsB (fun j => C i j - u i - v j) re sl be ((at_ : Nat) : Int) cl))]) := by
  refine cx_of pnX3_loosen (Nat.le_of_ble_eq_true rfl) ?_
  intro K G hr hnm hR
  obtain ⟨h11, h28, h29, h30, h31, h32, h33⟩ := id hJ
  show Wp K 6 (Mx K h (Rn nx [(30, oL 2 25 (lsS (fun j => C i j - u i - v j) re sl cl)), (32, oA 0 25 (lsB (fun j => C i j - u i - v j) re sl be ((at_ : Nat) : Int) cl))]) (0, 0)) (0, 0) 0 [(0, zR 11), (1, zI ((at_ : Nat) : Int))] [] (nx, h, [])
  refine wp_aload_n G 0 dX3_loosen_0 rfl ?_
  refine wp_get G 11 cOk3 fX3_49 dX3_loosen_1 h11 rfl ?_
  refine wp_iload_n G 1 dX3_loosen_4 rfl ?_
  refine wp_iald (j := at_) G dX3_loosen_5 h31 rfl (by omega) (by decide) ?_
  rw [show ((ro at_) : Int) = ((i : Nat) : Int) by exact hro]
  refine wp_istore_n (lv' := [(2, zI ((i : Nat) : Int)), (0, zR 11), (1, zI ((at_ : Nat) : Int))]) G dX3_loosen_6 (by decide) rfl ?_
  refine wp_iconst G dX3_loosen_7 ?_
  refine wp_istore_n (lv' := [(3, zI 1), (2, zI ((i : Nat) : Int)), (0, zR 11), (1, zI ((at_ : Nat) : Int))]) G dX3_loosen_8 (by decide) rfl ?_
  refine wp_own (r := 30) (hp2 := (nx, h, [(30, oL 2 25 sl)])) h30 rfl ?_
  refine wp_own (r := 32) (hp2 := (nx, h, [(30, oL 2 25 sl), (32, oA 0 25 be)])) h32 rfl ?_
  refine wp_lv [2, 3, 1, 0] rfl ?_
  suffices lp9 : ∀ (fu : Nat) (k : Nat) (v3 : Int) (A30 : Nat → Int) (A32 : Nat → Int), cl - k < fu → (v3 = ((k + 1 : Nat) : Int)) → (A30 = lsS (fun j => C i j - u i - v j) re sl k) → (A32 = lsB (fun j => C i j - u i - v j) re sl be ((at_ : Nat) : Int) k) → (k ≤ cl) → Wp K 6 (Mx K h (Rn nx [(30, oL 2 25 (lsS (fun j => C i j - u i - v j) re sl cl)), (32, oA 0 25 (lsB (fun j => C i j - u i - v j) re sl be ((at_ : Nat) : Int) cl))]) (0, 0)) (0, 0) 9 [(0, zR 11), (1, zI ((at_ : Nat) : Int)), (2, zI ((i : Nat) : Int)), (3, zI v3)] [] (nx, h, [(30, oL 2 25 A30), (32, oA 0 25 A32)]) from lp9 _ 0 1 sl be (Nat.lt_succ_self _) (by omega) (by exact (ls_0 (be := be) (w := 0)).1.symm) (by exact ls_0.2.symm) (by omega)
  intro fu
  induction fu with
  | zero => intro k v3 A30 A32 hm; exact absurd hm (Nat.not_lt_zero _)
  | succ fu ih9 =>
    intro k v3 A30 A32 hm9 e3 eA30 eA32 hi0
    subst e3
    subst eA30
    subst eA32
    have hs1 := hsl (k + 1)
    have hc1 := hc (k + 1)
    refine wp_iload_n G 3 dX3_loosen_9 rfl ?_
    refine wp_aload_n G 0 dX3_loosen_10 rfl ?_
    refine wp_get G 4 cOk3 fX3_24 dX3_loosen_11 h11 rfl ?_
    refine wp_icmp_gt G dX3_loosen_14 (by omega) (by omega) (fun kq1 => ?_) (fun kq1 => ?_)
    · skip
      exact wp_vreturn G hr dX3_loosen_83 ⟨rfl, rfl, by rw [show k = cl by omega]⟩
    · skip
      refine wp_aload_n G 0 dX3_loosen_17 rfl ?_
      refine wp_get G 7 cOk3 fX3_36 dX3_loosen_18 h11 rfl ?_
      refine wp_iload_n G 2 dX3_loosen_21 rfl ?_
      refine wp_aald (j := i) G (by decide) (by decide) dX3_loosen_22 h14 rfl (by omega) (by decide) ?_
      show Wp K 6 (Mx K h (Rn nx [(30, oL 2 25 (lsS (fun j => C i j - u i - v j) re sl cl)), (32, oA 0 25 (lsB (fun j => C i j - u i - v j) re sl be ((at_ : Nat) : Int) cl))]) (0, 0)) (0, 0) 23 [(0, zR 11), (1, zI ((at_ : Nat) : Int)), (2, zI ((i : Nat) : Int)), (3, zI ((k + 1 : Nat) : Int))] [zR (15 + i)] (nx, h, [(30, oL 2 25 (lsS (fun j => C i j - u i - v j) re sl k)), (32, oA 0 25 (lsB (fun j => C i j - u i - v j) re sl be ((at_ : Nat) : Int) k))])
      refine wp_iload_n G 3 dX3_loosen_23 rfl ?_
      refine wp_lald (j := k + 1) G dX3_loosen_24 (lk_lt (by omega) rfl (hC i (by omega))) rfl (by omega) (by decide) ?_
      refine wp_aload_n G 0 dX3_loosen_25 rfl ?_
      refine wp_get G 8 cOk3 fX3_39 dX3_loosen_26 h11 rfl ?_
      refine wp_iload_n G 2 dX3_loosen_29 rfl ?_
      refine wp_lald (j := i) G dX3_loosen_30 h28 rfl (by omega) (by decide) ?_
      refine wp_lsub G dX3_loosen_31 ?_
      refine wp_aload_n G 0 dX3_loosen_32 rfl ?_
      refine wp_get G 9 cOk3 fX3_43 dX3_loosen_33 h11 rfl ?_
      refine wp_iload_n G 3 dX3_loosen_36 rfl ?_
      refine wp_lald (j := k + 1) G dX3_loosen_37 h29 rfl (by omega) (by decide) ?_
      refine wp_lsub G dX3_loosen_38 ?_
      refine wp_lstore (lv' := [(4, zJ ((((C i) (k + 1)) - (u i)) - (v (k + 1)))), (0, zR 11), (1, zI ((at_ : Nat) : Int)), (2, zI ((i : Nat) : Int)), (3, zI ((k + 1 : Nat) : Int))]) G dX3_loosen_39 (by decide) rfl ?_
      refine wp_aload_n G 1 dX3_loosen_41 rfl ?_
      refine wp_get G 13 cOk3 fX3_55 dX3_loosen_42 h11 rfl ?_
      refine wp_iload_n G 4 dX3_loosen_45 rfl ?_
      refine wp_zald (j := k + 1) G dX3_loosen_46 h33 rfl (by omega) (by decide) ?_
      have rrq1 := hre (k + 1) (by omega)
      refine wp_if_ne G dX3_loosen_47 (by omega) (fun kq2 => ?_) (fun kq2 => ?_)
      · skip
        refine wp_iinc (lv' := [(3, zI (((k + 1 : Nat) : Int) + 1)), (4, zJ ((((C i) (k + 1)) - (u i)) - (v (k + 1)))), (0, zR 11), (1, zI ((at_ : Nat) : Int)), (2, zI ((i : Nat) : Int))]) G 4 dX3_loosen_77 rfl (by decide) rfl ?_
        refine wp_goto G dX3_loosen_80 ?_
        refine wp_lv [2, 3, 4, 0] rfl ?_
        exact ih9 (k + 1) (((k + 1 : Nat) : Int) + 1) (lsS (fun j => C i j - u i - v j) re sl k) (lsB (fun j => C i j - u i - v j) re sl be ((at_ : Nat) : Int) k) (by omega) (by omega) (by first | exact (ls_y (be := be) (w := 0) (c := (fun j => C i j - u i - v j)) ⟨by omega, by show C i (k + 1) - u i - v (k + 1) < sl (k + 1); omega⟩).1 | exact (ls_n (be := be) (w := 0) (c := (fun j => C i j - u i - v j)) (fun z => by have z1 := z.1; have z2 : C i (k + 1) - u i - v (k + 1) < sl (k + 1) := z.2; omega)).1) (by first | exact (ls_y (c := (fun j => C i j - u i - v j)) ⟨by omega, by show C i (k + 1) - u i - v (k + 1) < sl (k + 1); omega⟩).2 | exact (ls_n (c := (fun j => C i j - u i - v j)) (fun z => by have z1 := z.1; have z2 : C i (k + 1) - u i - v (k + 1) < sl (k + 1) := z.2; omega)).2) (by omega)
      · skip
        have hs1b := hs1 (by omega) (by omega) (by omega)
        have hc1b := hc1 (by omega) (by omega)
        refine wp_lload G 0 dX3_loosen_50 rfl ?_
        refine wp_aload_n G 1 dX3_loosen_52 rfl ?_
        refine wp_get G 10 cOk3 fX3_46 dX3_loosen_53 h11 rfl ?_
        refine wp_iload_n G 4 dX3_loosen_56 rfl ?_
        refine wp_lald (j := k + 1) G dX3_loosen_57 rfl rfl (by omega) (by decide) ?_
        rw [show (((lsS (fun j => C i j - u i - v j) re sl k) (k + 1)) : Int) = sl (k + 1) by exact lsS_at]
        refine wp_lcmp G (by omega) (by omega) dX3_loosen_58 ?_
        refine wp_if_ge G dX3_loosen_59 (cmpZ_r _ _) (fun kq3 => ?_) (fun kq3 => ?_)
        · have kq3 : (sl (k + 1)) ≤ ((((C i) (k + 1)) - (u i)) - (v (k + 1))) := Int.not_lt.mp (fun z => absurd (cmpZ_lt.mpr z) (Int.not_lt.mpr kq3))
          refine wp_iinc (lv' := [(3, zI (((k + 1 : Nat) : Int) + 1)), (4, zJ ((((C i) (k + 1)) - (u i)) - (v (k + 1)))), (0, zR 11), (1, zI ((at_ : Nat) : Int)), (2, zI ((i : Nat) : Int))]) G 4 dX3_loosen_77 rfl (by decide) rfl ?_
          refine wp_goto G dX3_loosen_80 ?_
          refine wp_lv [2, 3, 4, 0] rfl ?_
          exact ih9 (k + 1) (((k + 1 : Nat) : Int) + 1) (lsS (fun j => C i j - u i - v j) re sl k) (lsB (fun j => C i j - u i - v j) re sl be ((at_ : Nat) : Int) k) (by omega) (by omega) (by first | exact (ls_y (be := be) (w := 0) (c := (fun j => C i j - u i - v j)) ⟨by omega, by show C i (k + 1) - u i - v (k + 1) < sl (k + 1); omega⟩).1 | exact (ls_n (be := be) (w := 0) (c := (fun j => C i j - u i - v j)) (fun z => by have z1 := z.1; have z2 : C i (k + 1) - u i - v (k + 1) < sl (k + 1) := z.2; omega)).1) (by first | exact (ls_y (c := (fun j => C i j - u i - v j)) ⟨by omega, by show C i (k + 1) - u i - v (k + 1) < sl (k + 1); omega⟩).2 | exact (ls_n (c := (fun j => C i j - u i - v j)) (fun z => by have z1 := z.1; have z2 : C i (k + 1) - u i - v (k + 1) < sl (k + 1) := z.2; omega)).2) (by omega)
        · have kq3 : ((((C i) (k + 1)) - (u i)) - (v (k + 1))) < (sl (k + 1)) := cmpZ_lt.mp kq3
          refine wp_aload_n G 1 dX3_loosen_62 rfl ?_
          refine wp_get G 10 cOk3 fX3_46 dX3_loosen_63 h11 rfl ?_
          refine wp_iload_n G 4 dX3_loosen_66 rfl ?_
          refine wp_lload G 0 dX3_loosen_67 rfl ?_
          refine wp_lastE (j := k + 1) (hp2 := (nx, h, [(30, oL 2 25 (fup (lsS (fun j => C i j - u i - v j) re sl k) (k + 1) ((((C i) (k + 1)) - (u i)) - (v (k + 1))))), (32, oA 0 25 (lsB (fun j => C i j - u i - v j) re sl be ((at_ : Nat) : Int) k))])) G dX3_loosen_69 rfl rfl (by omega) (by decide) rfl ?_
          refine wp_aload_n G 1 dX3_loosen_70 rfl ?_
          refine wp_get G 12 cOk3 fX3_52 dX3_loosen_71 h11 rfl ?_
          refine wp_iload_n G 4 dX3_loosen_74 rfl ?_
          refine wp_iload_n G 2 dX3_loosen_75 rfl ?_
          refine wp_iastE (j := k + 1) (hp2 := (nx, h, [(30, oL 2 25 (fup (lsS (fun j => C i j - u i - v j) re sl k) (k + 1) ((((C i) (k + 1)) - (u i)) - (v (k + 1))))), (32, oA 0 25 (fup (lsB (fun j => C i j - u i - v j) re sl be ((at_ : Nat) : Int) k) (k + 1) ((at_ : Nat) : Int)))])) G dX3_loosen_76 rfl rfl (by omega) (by decide) rfl ?_
          refine wp_iinc (lv' := [(3, zI (((k + 1 : Nat) : Int) + 1)), (4, zJ ((((C i) (k + 1)) - (u i)) - (v (k + 1)))), (0, zR 11), (1, zI ((at_ : Nat) : Int)), (2, zI ((i : Nat) : Int))]) G 4 dX3_loosen_77 rfl (by decide) rfl ?_
          refine wp_goto G dX3_loosen_80 ?_
          refine wp_lv [2, 3, 4, 0] rfl ?_
          exact ih9 (k + 1) (((k + 1 : Nat) : Int) + 1) (fup (lsS (fun j => C i j - u i - v j) re sl k) (k + 1) ((((C i) (k + 1)) - (u i)) - (v (k + 1)))) (fup (lsB (fun j => C i j - u i - v j) re sl be ((at_ : Nat) : Int) k) (k + 1) ((at_ : Nat) : Int)) (by omega) (by omega) (by first | exact (ls_y (be := be) (w := 0) (c := (fun j => C i j - u i - v j)) ⟨by omega, by show C i (k + 1) - u i - v (k + 1) < sl (k + 1); omega⟩).1 | exact (ls_n (be := be) (w := 0) (c := (fun j => C i j - u i - v j)) (fun z => by have z1 := z.1; have z2 : C i (k + 1) - u i - v (k + 1) < sl (k + 1) := z.2; omega)).1) (by first | exact (ls_y (c := (fun j => C i j - u i - v j)) ⟨by omega, by show C i (k + 1) - u i - v (k + 1) < sl (k + 1); omega⟩).2 | exact (ls_n (c := (fun j => C i j - u i - v j)) (fun z => by have z1 := z.1; have z2 : C i (k + 1) - u i - v (k + 1) < sl (k + 1) := z.2; omega)).2) (by omega)

