def isMj (h : Nat → Option PC) (A B J : Nat → Int) : Prop := h 74 = some (oA 0 12 A) ∧ h 75 = some (oA 0 12 B) ∧ h 76 = some (oA 0 53248 J)
def okX (sm : Nat → Int) (sl : Nat → Nat) (tx : Nat → Nat → Int) (fc : Nat) : Prop := ∀ f, f < fc → (∀ i, i < sl f → sm (48 * f + i) = tx f i) ∧ fltZ (tx f) (sl f) = -6 ∧ ∀ i, i < sl f → 33 ≤ tx f i ∧ tx f i ≤ 126
theorem sc_b {F G D : Int → Int} {w v : Int} {a i : Nat} (h : ofZ F G D w ((a + i : Nat) : Int) = v) : scZ F G D w ((a : Nat) : Int) i + v * v = scZ F G D w ((a : Nat) : Int) (i + 1) := by
  subst h
  rfl
theorem mix_same (w x : Int) : (w * x + (10 - w) * x) / 10 = x := by
  rw [← Int.add_mul, show w + (10 - w) = 10 by omega]
  omega
theorem mix_b {w x : Int} (hw : 0 ≤ w ∧ w ≤ 10) (hx : 0 ≤ x ∧ x ≤ 1000) : 0 ≤ w * x ∧ w * x ≤ 10000 := by
  refine ⟨Int.mul_nonneg hw.1 hx.1, ?_⟩
  have := Int.mul_le_mul hw.2 hx.2 hx.1 (by decide : (0 : Int) ≤ 10)
  omega
def cN (q : Nat → Nat → Int) (a : Int) : Nat → Nat
  | 0 => 0
  | k + 1 => if q 0 k = a then cN q a k + 1 else cN q a k
theorem cN_y {q : Nat → Nat → Int} {a : Int} {k : Nat} (h : q 0 k = a) : cN q a (k + 1) = cN q a k + 1 := by rw [cN, if_pos h]
theorem cN_n {q : Nat → Nat → Int} {a : Int} {k : Nat} (h : ¬ q 0 k = a) : cN q a (k + 1) = cN q a k := by rw [cN, if_neg h]
theorem cN_le (q : Nat → Nat → Int) (a : Int) : ∀ k, cN q a k ≤ k
  | 0 => Nat.le_refl _
  | k + 1 => by
    have := cN_le q a k
    rw [cN]
    split <;> omega
theorem cN_mono (q : Nat → Nat → Int) (a : Int) {j : Nat} : ∀ k, j ≤ k → cN q a j ≤ cN q a k
  | 0, h => by rw [show j = 0 by omega]; exact Nat.le_refl _
  | k + 1, h => by
    rcases Nat.lt_or_ge k j with c | c
    · rw [show j = k + 1 by omega]; exact Nat.le_refl _
    · have := cN_mono q a k c
      have e : cN q a k ≤ cN q a (k + 1) := by rw [cN]; split <;> omega
      omega
theorem cN_lt {q : Nat → Nat → Int} {a : Int} {j k : Nat} (h : q 0 j = a) (hj : j < k) : cN q a j < cN q a k := by
  have := cN_mono q a (j := j + 1) k hj
  rw [cN_y h] at this
  omega
theorem cN_put {q : Nat → Nat → Int} {a : Int} {i : Nat} {R : Nat → Int} (hR : ∀ j, j < i → q 0 j = a → cN q a j < 12 → R (cN q a j) = ((j : Nat) : Int)) : ∀ j, j < i + 1 → q 0 j = a → cN q a j < 12 → fup R (cN q a i) ((i : Nat) : Int) (cN q a j) = ((j : Nat) : Int) := by
  intro j hj h1 h2
  rcases Nat.lt_succ_iff_lt_or_eq.mp hj with e | e
  · have := cN_lt h1 e
    rw [fup_ne _ _ (by omega)]
    exact hR j e h1 h2
  · subst e
    rw [fup_self]
theorem cN_no {q : Nat → Nat → Int} {a : Int} {i : Nat} {R : Nat → Int} (hR : ∀ j, j < i → q 0 j = a → cN q a j < 12 → R (cN q a j) = ((j : Nat) : Int)) (h : ¬ q 0 i = a ∨ 12 ≤ cN q a i) : ∀ j, j < i + 1 → q 0 j = a → cN q a j < 12 → R (cN q a j) = ((j : Nat) : Int) := by
  intro j hj h1 h2
  rcases Nat.lt_succ_iff_lt_or_eq.mp hj with e | e
  · exact hR j e h1 h2
  · subst e
    rcases h with h | h
    · exact absurd h1 h
    · omega
/-- how far two quakes miss each other, or that they can't be one -/
def msZ (q : Nat → Nat → Int) (st : Nat → Int) (i j : Nat) : Int := if (if 0 ≤ (q 1 i - q 1 j) then (q 1 i - q 1 j) else -(q 1 i - q 1 j)) ≤ st 0 ∧ farZ (q 2 i) (q 3 i) (q 2 j) (q 3 j) ≤ st 1 ∧ (if 0 ≤ (q 4 i - q 4 j) then (q 4 i - q 4 j) else -(q 4 i - q 4 j)) ≤ st 2 then (if 0 ≤ (q 1 i - q 1 j) then (q 1 i - q 1 j) else -(q 1 i - q 1 j)) + farZ (q 2 i) (q 3 i) (q 2 j) (q 3 j) + (if 0 ≤ (q 4 i - q 4 j) then (q 4 i - q 4 j) else -(q 4 i - q 4 j)) else -1

set_option maxRecDepth 100000 in
set_option maxHeartbeats 4000000 in
theorem t_X10_scoreOf {nx : Nat} {h : Nat → Option PC} {n : Nat} {q : Nat → Nat → Int} {o : Nat → Nat} {fc : Nat} {hn : Nat} {ln : Nat} {ma : Int} {mb : Int} {st : Nat → Int} {sm : Nat → Int} {sl : Nat → Nat} {ri : Nat → Int} {tx : Nat → Nat → Int} {f : Nat} {g : Nat} {w : Int} {m : Int} {a : Nat} {b : Nat} (hQ : isM h n q o fc hn ln ma mb st) (hO : okQ n q o) (hN : okN st) (hT : isMt h sm sl ri) (hsl : ∀ f, f < 7 → sl f ≤ 48) (hX : okX sm sl tx fc) (hfc : fc ≤ 6) (hf : f < fc) (hg : g < fc) (hw : 0 ≤ w ∧ w ≤ 10) (ri_m : r32 m) (ha9 : a ≤ 3999) (hb9 : b ≤ 3999) : Cx 3 (0, 0) yX10_scoreOf cX10_scoreOf 14 (some .long) [zR 64, zI ((f : Nat) : Int), zI ((g : Nat) : Int), zI w, zI m, zI ((a : Nat) : Int), zI ((b : Nat) : Int)] nx h (fun rr nx' l' => ∃ (R : Nat → Int), rr = some (zJ (scZ (tlT q n (tx f) (sl f)) (tlT q n (tx g) (sl g)) (dueZ q n m) w ((a : Nat) : Int) (b + 1 - a))) ∧ nx' = nx ∧ l' = [(82, oA 0 4 R)]) := by
  refine cx_of pnX10_scoreOf (Nat.le_of_ble_eq_true rfl) ?_
  intro K G hr hnm hR
  obtain ⟨h64, h65, h66, h67, h68, h69, h70, h71, h72, h73⟩ := id hQ
  have hn40 := hO.1
  obtain ⟨hN0, hN1, hN2, hN3, hN4⟩ := id hN
  obtain ⟨h80, h81, h82⟩ := id hT
  have hsl6 := hsl 6 (by decide)
  have hXf := hX f hf
  have hXg := hX g hg
  have hbf := fun d => tlT_b (q := q) (n := n) (hsl f (by omega)) hXf.2.1 d
  have hbg := fun d => tlT_b (q := q) (n := n) (hsl g (by omega)) hXg.2.1 d
  show Wp K 14 (Mx K h (fun rr nx' l' => ∃ (R : Nat → Int), rr = some (zJ (scZ (tlT q n (tx f) (sl f)) (tlT q n (tx g) (sl g)) (dueZ q n m) w ((a : Nat) : Int) (b + 1 - a))) ∧ nx' = nx ∧ l' = [(82, oA 0 4 R)]) (0, 0)) (0, 0) 0 [(0, zR 64), (1, zI ((f : Nat) : Int)), (2, zI ((g : Nat) : Int)), (3, zI w), (4, zI m), (5, zI ((a : Nat) : Int)), (6, zI ((b : Nat) : Int))] [] (nx, h, [])
  refine wp_lconst (z := 0) G dX10_scoreOf_0 (by decide) ?_
  refine wp_lstore (lv' := [(7, zJ 0), (0, zR 64), (1, zI ((f : Nat) : Int)), (2, zI ((g : Nat) : Int)), (3, zI w), (4, zI m), (5, zI ((a : Nat) : Int)), (6, zI ((b : Nat) : Int))]) G dX10_scoreOf_1 (by decide) rfl ?_
  refine wp_iload G 6 dX10_scoreOf_3 rfl ?_
  refine wp_istore (lv' := [(9, zI ((a : Nat) : Int)), (7, zJ 0), (0, zR 64), (1, zI ((f : Nat) : Int)), (2, zI ((g : Nat) : Int)), (3, zI w), (4, zI m), (5, zI ((a : Nat) : Int)), (6, zI ((b : Nat) : Int))]) G dX10_scoreOf_5 (by decide) rfl ?_
  refine wp_own (r := 82) (hp2 := (nx, h, [(82, oA 0 4 ri)])) h82 rfl ?_
  refine wp_lv [2, 3, 4, 5, 6, 7, 8, 1, 0] rfl ?_
  suffices lp7 : ∀ (fu : Nat) (i : Nat) (R : Nat → Int) (v7 : Int) (v9 : Int), b + 1 - a - i < fu → (v7 = scZ (tlT q n (tx f) (sl f)) (tlT q n (tx g) (sl g)) (dueZ q n m) w ((a : Nat) : Int) (i)) → (v9 = ((a + i : Nat) : Int)) → (i ≤ b + 1 - a) → Wp K 14 (Mx K h (fun rr nx' l' => ∃ (R : Nat → Int), rr = some (zJ (scZ (tlT q n (tx f) (sl f)) (tlT q n (tx g) (sl g)) (dueZ q n m) w ((a : Nat) : Int) (b + 1 - a))) ∧ nx' = nx ∧ l' = [(82, oA 0 4 R)]) (0, 0)) (0, 0) 7 [(0, zR 64), (1, zI ((f : Nat) : Int)), (2, zI ((g : Nat) : Int)), (3, zI w), (4, zI m), (5, zI ((a : Nat) : Int)), (6, zI ((b : Nat) : Int)), (7, zJ v7), (9, zI v9)] [] (nx, h, [(82, oA 0 4 R)]) from lp7 _ 0 ri 0 ((a : Nat) : Int) (Nat.lt_succ_self _) (by rfl) (by rfl) (by omega)
  intro fu
  induction fu with
  | zero => intro i R v7 v9 hm; exact absurd hm (Nat.not_lt_zero _)
  | succ fu ih7 =>
    intro i R v7 v9 hm7 e7 e9 hi0
    subst e7
    subst e9
    have hxf := hbf ((a + i : Nat) : Int)
    have hxg := hbg ((a + i : Nat) : Int)
    have hwf := mix_b hw hxf
    have hwg := mix_b (w := 10 - w) (by omega) hxg
    refine wp_iload G 8 dX10_scoreOf_7 rfl ?_
    refine wp_iload G 6 dX10_scoreOf_9 rfl ?_
    refine wp_icmp_gt G dX10_scoreOf_11 (by omega) (by omega) (fun kq1 => ?_) (fun kq1 => ?_)
    · skip
      refine wp_lload G 7 dX10_scoreOf_97 rfl ?_
      exact wp_lreturn G hr dX10_scoreOf_99 ⟨R, by rw [show i = b + 1 - a by omega], rfl, by rfl⟩
    · skip
      refine wp_iload_n G 1 dX10_scoreOf_14 rfl ?_
      refine wp_iload_n G 2 dX10_scoreOf_15 rfl ?_
      refine wp_icmp_ne G dX10_scoreOf_16 (by omega) (by omega) (fun kq2 => ?_) (fun kq2 => ?_)
      · skip
        refine wp_iload_n G 3 dX10_scoreOf_30 rfl ?_
        refine wp_aload_n G 0 dX10_scoreOf_31 rfl ?_
        refine wp_iload_n G 1 dX10_scoreOf_32 rfl ?_
        refine wp_iload G 8 dX10_scoreOf_33 rfl ?_
        refine wp_callV (mm := (0, 0)) (b := 64) (ci := 9) (as := [zI ((f : Nat) : Int), zI ((a + i : Nat) : Int)]) (rest := [zI w]) G mX10_toldFor lX10_277 iX10_toldFor eX10_toldFor ⟨_, rfl, rfl⟩ dX10_scoreOf_35 h64 rfl rfl (Nat.le_of_ble_eq_true rfl) (rmx_ok hR (by decide) (by decide) (by decide) (by decide)) (t_X10_toldFor (nx := nx) (d := ((a + i : Nat) : Int)) (sg := (tx f)) (f := f) hQ hO hN ⟨h80, h81, rfl⟩ hsl (by omega) hXf.1 hXf.2.1 hXf.2.2 (by omega)) (fun rr nx' l' hq => ?_)
        obtain ⟨R1 , rfl , enx , rfl⟩ := hq
        subst nx'
        show Wp K 14 (Mx K h (fun rr nx' l' => ∃ (R : Nat → Int), rr = some (zJ (scZ (tlT q n (tx f) (sl f)) (tlT q n (tx g) (sl g)) (dueZ q n m) w ((a : Nat) : Int) (b + 1 - a))) ∧ nx' = nx ∧ l' = [(82, oA 0 4 R)]) (0, 0)) (0, 0) 38 [(0, zR 64), (1, zI ((f : Nat) : Int)), (2, zI ((g : Nat) : Int)), (3, zI w), (4, zI m), (5, zI ((a : Nat) : Int)), (6, zI ((b : Nat) : Int)), (7, zJ (scZ (tlT q n (tx f) (sl f)) (tlT q n (tx g) (sl g)) (dueZ q n m) w ((a : Nat) : Int) (i))), (9, zI ((a + i : Nat) : Int))] [zI (tlT q n (tx f) (sl f) ((a + i : Nat) : Int)), zI w] (nx, h, [(82, oA 0 4 R1)])
        refine wp_imul G dX10_scoreOf_38 ?_
        refine wp_bipush G dX10_scoreOf_39 (by decide) ?_
        refine wp_iload_n G 3 dX10_scoreOf_41 rfl ?_
        refine wp_isub G dX10_scoreOf_42 ?_
        refine wp_aload_n G 0 dX10_scoreOf_43 rfl ?_
        refine wp_iload_n G 2 dX10_scoreOf_44 rfl ?_
        refine wp_iload G 8 dX10_scoreOf_45 rfl ?_
        refine wp_callV (mm := (0, 0)) (b := 64) (ci := 9) (as := [zI ((g : Nat) : Int), zI ((a + i : Nat) : Int)]) (rest := [zI (10 - w), zI (w * tlT q n (tx f) (sl f) ((a + i : Nat) : Int))]) G mX10_toldFor lX10_277 iX10_toldFor eX10_toldFor ⟨_, rfl, rfl⟩ dX10_scoreOf_47 h64 rfl rfl (Nat.le_of_ble_eq_true rfl) (rmx_ok hR (by decide) (by decide) (by decide) (by decide)) (t_X10_toldFor (nx := nx) (d := ((a + i : Nat) : Int)) (sg := (tx g)) (f := g) hQ hO hN ⟨h80, h81, rfl⟩ hsl (by omega) hXg.1 hXg.2.1 hXg.2.2 (by omega)) (fun rr nx' l' hq => ?_)
        obtain ⟨R2 , rfl , enx , rfl⟩ := hq
        subst nx'
        show Wp K 14 (Mx K h (fun rr nx' l' => ∃ (R : Nat → Int), rr = some (zJ (scZ (tlT q n (tx f) (sl f)) (tlT q n (tx g) (sl g)) (dueZ q n m) w ((a : Nat) : Int) (b + 1 - a))) ∧ nx' = nx ∧ l' = [(82, oA 0 4 R)]) (0, 0)) (0, 0) 50 [(0, zR 64), (1, zI ((f : Nat) : Int)), (2, zI ((g : Nat) : Int)), (3, zI w), (4, zI m), (5, zI ((a : Nat) : Int)), (6, zI ((b : Nat) : Int)), (7, zJ (scZ (tlT q n (tx f) (sl f)) (tlT q n (tx g) (sl g)) (dueZ q n m) w ((a : Nat) : Int) (i))), (9, zI ((a + i : Nat) : Int))] [zI (tlT q n (tx g) (sl g) ((a + i : Nat) : Int)), zI (10 - w), zI (w * tlT q n (tx f) (sl f) ((a + i : Nat) : Int))] (nx, h, [(82, oA 0 4 R2)])
        refine wp_imul G dX10_scoreOf_50 ?_
        refine wp_iadd G dX10_scoreOf_51 ?_
        refine wp_bipush G dX10_scoreOf_52 (by decide) ?_
        refine wp_idiv G (by omega) (by omega) (by omega) (by omega) dX10_scoreOf_54 ?_
        refine wp_i2l G (by omega) dX10_scoreOf_55 ?_
        refine wp_lstore (lv' := [(10, zJ (((w * tlT q n (tx f) (sl f) ((a + i : Nat) : Int)) + ((10 - w) * tlT q n (tx g) (sl g) ((a + i : Nat) : Int))) / 10)), (0, zR 64), (1, zI ((f : Nat) : Int)), (2, zI ((g : Nat) : Int)), (3, zI w), (4, zI m), (5, zI ((a : Nat) : Int)), (6, zI ((b : Nat) : Int)), (7, zJ (scZ (tlT q n (tx f) (sl f)) (tlT q n (tx g) (sl g)) (dueZ q n m) w ((a : Nat) : Int) (i))), (9, zI ((a + i : Nat) : Int))]) G dX10_scoreOf_56 (by decide) rfl ?_
        refine wp_lload G 0 dX10_scoreOf_58 rfl ?_
        refine wp_aload_n G 1 dX10_scoreOf_60 rfl ?_
        refine wp_iload G 9 dX10_scoreOf_61 rfl ?_
        refine wp_iload G 5 dX10_scoreOf_63 rfl ?_
        refine wp_cVE (b := 64) (ci := 9) (as := [zI ((a + i : Nat) : Int), zI m]) (rest := [zJ (((w * tlT q n (tx f) (sl f) ((a + i : Nat) : Int)) + ((10 - w) * tlT q n (tx g) (sl g) ((a + i : Nat) : Int))) / 10)]) (hp2 := (nx, h, [(82, oA 0 4 R2)])) G mX10_hasQuake lX10_280 iX10_hasQuake eX10_hasQuake ⟨_, rfl, rfl⟩ dX10_scoreOf_65 h64 rfl rfl (Nat.le_of_ble_eq_true rfl) (rmx_ok hR (by decide) (by decide) (by decide) (by decide)) (t_X10_hasQuake (nx := nx) (d := ((a + i : Nat) : Int)) (m := m) hQ hO hN (by omega) ri_m) rfl ?_
        refine wp_ifeq_bt G dX10_scoreOf_68 (fun kq3 => ?_) (fun kq3 => ?_)
        · skip
          refine wp_lconst (z := 0) G dX10_scoreOf_77 (by decide) ?_
          refine wp_lsub G dX10_scoreOf_78 ?_
          refine wp_lstore (lv' := [(12, zJ ((((w * tlT q n (tx f) (sl f) ((a + i : Nat) : Int)) + ((10 - w) * tlT q n (tx g) (sl g) ((a + i : Nat) : Int))) / 10) - 0)), (10, zJ (((w * tlT q n (tx f) (sl f) ((a + i : Nat) : Int)) + ((10 - w) * tlT q n (tx g) (sl g) ((a + i : Nat) : Int))) / 10)), (0, zR 64), (1, zI ((f : Nat) : Int)), (2, zI ((g : Nat) : Int)), (3, zI w), (4, zI m), (5, zI ((a : Nat) : Int)), (6, zI ((b : Nat) : Int)), (7, zJ (scZ (tlT q n (tx f) (sl f)) (tlT q n (tx g) (sl g)) (dueZ q n m) w ((a : Nat) : Int) (i))), (9, zI ((a + i : Nat) : Int))]) G dX10_scoreOf_79 (by decide) rfl ?_
          refine wp_lload G 9 dX10_scoreOf_81 rfl ?_
          refine wp_lload G 0 dX10_scoreOf_83 rfl ?_
          refine wp_lload G 0 dX10_scoreOf_85 rfl ?_
          refine wp_lmul G dX10_scoreOf_87 ?_
          refine wp_ladd G dX10_scoreOf_88 ?_
          refine wp_lstore (lv' := [(7, zJ (scZ (tlT q n (tx f) (sl f)) (tlT q n (tx g) (sl g)) (dueZ q n m) w ((a : Nat) : Int) (i) + (((((w * tlT q n (tx f) (sl f) ((a + i : Nat) : Int)) + ((10 - w) * tlT q n (tx g) (sl g) ((a + i : Nat) : Int))) / 10) - 0) * ((((w * tlT q n (tx f) (sl f) ((a + i : Nat) : Int)) + ((10 - w) * tlT q n (tx g) (sl g) ((a + i : Nat) : Int))) / 10) - 0)))), (12, zJ ((((w * tlT q n (tx f) (sl f) ((a + i : Nat) : Int)) + ((10 - w) * tlT q n (tx g) (sl g) ((a + i : Nat) : Int))) / 10) - 0)), (10, zJ (((w * tlT q n (tx f) (sl f) ((a + i : Nat) : Int)) + ((10 - w) * tlT q n (tx g) (sl g) ((a + i : Nat) : Int))) / 10)), (0, zR 64), (1, zI ((f : Nat) : Int)), (2, zI ((g : Nat) : Int)), (3, zI w), (4, zI m), (5, zI ((a : Nat) : Int)), (6, zI ((b : Nat) : Int)), (9, zI ((a + i : Nat) : Int))]) G dX10_scoreOf_89 (by decide) rfl ?_
          refine wp_iinc (lv' := [(9, zI (((a + i : Nat) : Int) + 1)), (7, zJ (scZ (tlT q n (tx f) (sl f)) (tlT q n (tx g) (sl g)) (dueZ q n m) w ((a : Nat) : Int) (i) + (((((w * tlT q n (tx f) (sl f) ((a + i : Nat) : Int)) + ((10 - w) * tlT q n (tx g) (sl g) ((a + i : Nat) : Int))) / 10) - 0) * ((((w * tlT q n (tx f) (sl f) ((a + i : Nat) : Int)) + ((10 - w) * tlT q n (tx g) (sl g) ((a + i : Nat) : Int))) / 10) - 0)))), (12, zJ ((((w * tlT q n (tx f) (sl f) ((a + i : Nat) : Int)) + ((10 - w) * tlT q n (tx g) (sl g) ((a + i : Nat) : Int))) / 10) - 0)), (10, zJ (((w * tlT q n (tx f) (sl f) ((a + i : Nat) : Int)) + ((10 - w) * tlT q n (tx g) (sl g) ((a + i : Nat) : Int))) / 10)), (0, zR 64), (1, zI ((f : Nat) : Int)), (2, zI ((g : Nat) : Int)), (3, zI w), (4, zI m), (5, zI ((a : Nat) : Int)), (6, zI ((b : Nat) : Int))]) G 10 dX10_scoreOf_91 rfl (by decide) rfl ?_
          refine wp_goto G dX10_scoreOf_94 ?_
          refine wp_lv [4, 5, 6, 7, 8, 9, 10, 1, 0] rfl ?_
          exact ih7 (i + 1) R2 (scZ (tlT q n (tx f) (sl f)) (tlT q n (tx g) (sl g)) (dueZ q n m) w ((a : Nat) : Int) (i) + (((((w * tlT q n (tx f) (sl f) ((a + i : Nat) : Int)) + ((10 - w) * tlT q n (tx g) (sl g) ((a + i : Nat) : Int))) / 10) - 0) * ((((w * tlT q n (tx f) (sl f) ((a + i : Nat) : Int)) + ((10 - w) * tlT q n (tx g) (sl g) ((a + i : Nat) : Int))) / 10) - 0))) (((a + i : Nat) : Int) + 1) (by omega) (by exact sc_b (by first | (obtain rfl := Int.ofNat.inj kq2; unfold ofZ dueZ; rw [mix_same]; first | rw [ifZ_y ‹_›] | rw [ifZ_n ‹_›]) | (unfold ofZ dueZ; first | rw [ifZ_y ‹_›] | rw [ifZ_n ‹_›]))) (by omega) (by omega)
        · skip
          refine wp_ldc2 (z := 1000) G kX10_283 dX10_scoreOf_71 ?_
          refine wp_goto G dX10_scoreOf_74 ?_
          refine wp_lsub G dX10_scoreOf_78 ?_
          refine wp_lstore (lv' := [(12, zJ ((((w * tlT q n (tx f) (sl f) ((a + i : Nat) : Int)) + ((10 - w) * tlT q n (tx g) (sl g) ((a + i : Nat) : Int))) / 10) - 1000)), (10, zJ (((w * tlT q n (tx f) (sl f) ((a + i : Nat) : Int)) + ((10 - w) * tlT q n (tx g) (sl g) ((a + i : Nat) : Int))) / 10)), (0, zR 64), (1, zI ((f : Nat) : Int)), (2, zI ((g : Nat) : Int)), (3, zI w), (4, zI m), (5, zI ((a : Nat) : Int)), (6, zI ((b : Nat) : Int)), (7, zJ (scZ (tlT q n (tx f) (sl f)) (tlT q n (tx g) (sl g)) (dueZ q n m) w ((a : Nat) : Int) (i))), (9, zI ((a + i : Nat) : Int))]) G dX10_scoreOf_79 (by decide) rfl ?_
          refine wp_lload G 9 dX10_scoreOf_81 rfl ?_
          refine wp_lload G 0 dX10_scoreOf_83 rfl ?_
          refine wp_lload G 0 dX10_scoreOf_85 rfl ?_
          refine wp_lmul G dX10_scoreOf_87 ?_
          refine wp_ladd G dX10_scoreOf_88 ?_
          refine wp_lstore (lv' := [(7, zJ (scZ (tlT q n (tx f) (sl f)) (tlT q n (tx g) (sl g)) (dueZ q n m) w ((a : Nat) : Int) (i) + (((((w * tlT q n (tx f) (sl f) ((a + i : Nat) : Int)) + ((10 - w) * tlT q n (tx g) (sl g) ((a + i : Nat) : Int))) / 10) - 1000) * ((((w * tlT q n (tx f) (sl f) ((a + i : Nat) : Int)) + ((10 - w) * tlT q n (tx g) (sl g) ((a + i : Nat) : Int))) / 10) - 1000)))), (12, zJ ((((w * tlT q n (tx f) (sl f) ((a + i : Nat) : Int)) + ((10 - w) * tlT q n (tx g) (sl g) ((a + i : Nat) : Int))) / 10) - 1000)), (10, zJ (((w * tlT q n (tx f) (sl f) ((a + i : Nat) : Int)) + ((10 - w) * tlT q n (tx g) (sl g) ((a + i : Nat) : Int))) / 10)), (0, zR 64), (1, zI ((f : Nat) : Int)), (2, zI ((g : Nat) : Int)), (3, zI w), (4, zI m), (5, zI ((a : Nat) : Int)), (6, zI ((b : Nat) : Int)), (9, zI ((a + i : Nat) : Int))]) G dX10_scoreOf_89 (by decide) rfl ?_
          refine wp_iinc (lv' := [(9, zI (((a + i : Nat) : Int) + 1)), (7, zJ (scZ (tlT q n (tx f) (sl f)) (tlT q n (tx g) (sl g)) (dueZ q n m) w ((a : Nat) : Int) (i) + (((((w * tlT q n (tx f) (sl f) ((a + i : Nat) : Int)) + ((10 - w) * tlT q n (tx g) (sl g) ((a + i : Nat) : Int))) / 10) - 1000) * ((((w * tlT q n (tx f) (sl f) ((a + i : Nat) : Int)) + ((10 - w) * tlT q n (tx g) (sl g) ((a + i : Nat) : Int))) / 10) - 1000)))), (12, zJ ((((w * tlT q n (tx f) (sl f) ((a + i : Nat) : Int)) + ((10 - w) * tlT q n (tx g) (sl g) ((a + i : Nat) : Int))) / 10) - 1000)), (10, zJ (((w * tlT q n (tx f) (sl f) ((a + i : Nat) : Int)) + ((10 - w) * tlT q n (tx g) (sl g) ((a + i : Nat) : Int))) / 10)), (0, zR 64), (1, zI ((f : Nat) : Int)), (2, zI ((g : Nat) : Int)), (3, zI w), (4, zI m), (5, zI ((a : Nat) : Int)), (6, zI ((b : Nat) : Int))]) G 10 dX10_scoreOf_91 rfl (by decide) rfl ?_
          refine wp_goto G dX10_scoreOf_94 ?_
          refine wp_lv [4, 5, 6, 7, 8, 9, 10, 1, 0] rfl ?_
          exact ih7 (i + 1) R2 (scZ (tlT q n (tx f) (sl f)) (tlT q n (tx g) (sl g)) (dueZ q n m) w ((a : Nat) : Int) (i) + (((((w * tlT q n (tx f) (sl f) ((a + i : Nat) : Int)) + ((10 - w) * tlT q n (tx g) (sl g) ((a + i : Nat) : Int))) / 10) - 1000) * ((((w * tlT q n (tx f) (sl f) ((a + i : Nat) : Int)) + ((10 - w) * tlT q n (tx g) (sl g) ((a + i : Nat) : Int))) / 10) - 1000))) (((a + i : Nat) : Int) + 1) (by omega) (by exact sc_b (by first | (obtain rfl := Int.ofNat.inj kq2; unfold ofZ dueZ; rw [mix_same]; first | rw [ifZ_y ‹_›] | rw [ifZ_n ‹_›]) | (unfold ofZ dueZ; first | rw [ifZ_y ‹_›] | rw [ifZ_n ‹_›]))) (by omega) (by omega)
      · skip
        refine wp_aload_n G 0 dX10_scoreOf_19 rfl ?_
        refine wp_iload_n G 1 dX10_scoreOf_20 rfl ?_
        refine wp_iload G 8 dX10_scoreOf_21 rfl ?_
        refine wp_callV (mm := (0, 0)) (b := 64) (ci := 9) (as := [zI ((f : Nat) : Int), zI ((a + i : Nat) : Int)]) (rest := []) G mX10_toldFor lX10_277 iX10_toldFor eX10_toldFor ⟨_, rfl, rfl⟩ dX10_scoreOf_23 h64 rfl rfl (Nat.le_of_ble_eq_true rfl) (rmx_ok hR (by decide) (by decide) (by decide) (by decide)) (t_X10_toldFor (nx := nx) (d := ((a + i : Nat) : Int)) (sg := (tx f)) (f := f) hQ hO hN ⟨h80, h81, rfl⟩ hsl (by omega) hXf.1 hXf.2.1 hXf.2.2 (by omega)) (fun rr nx' l' hq => ?_)
        obtain ⟨R3 , rfl , enx , rfl⟩ := hq
        subst nx'
        show Wp K 14 (Mx K h (fun rr nx' l' => ∃ (R : Nat → Int), rr = some (zJ (scZ (tlT q n (tx f) (sl f)) (tlT q n (tx g) (sl g)) (dueZ q n m) w ((a : Nat) : Int) (b + 1 - a))) ∧ nx' = nx ∧ l' = [(82, oA 0 4 R)]) (0, 0)) (0, 0) 26 [(0, zR 64), (1, zI ((f : Nat) : Int)), (2, zI ((g : Nat) : Int)), (3, zI w), (4, zI m), (5, zI ((a : Nat) : Int)), (6, zI ((b : Nat) : Int)), (7, zJ (scZ (tlT q n (tx f) (sl f)) (tlT q n (tx g) (sl g)) (dueZ q n m) w ((a : Nat) : Int) (i))), (9, zI ((a + i : Nat) : Int))] [zI (tlT q n (tx f) (sl f) ((a + i : Nat) : Int))] (nx, h, [(82, oA 0 4 R3)])
        refine wp_i2l G (by omega) dX10_scoreOf_26 ?_
        refine wp_goto G dX10_scoreOf_27 ?_
        refine wp_lstore (lv' := [(10, zJ (tlT q n (tx f) (sl f) ((a + i : Nat) : Int))), (0, zR 64), (1, zI ((f : Nat) : Int)), (2, zI ((g : Nat) : Int)), (3, zI w), (4, zI m), (5, zI ((a : Nat) : Int)), (6, zI ((b : Nat) : Int)), (7, zJ (scZ (tlT q n (tx f) (sl f)) (tlT q n (tx g) (sl g)) (dueZ q n m) w ((a : Nat) : Int) (i))), (9, zI ((a + i : Nat) : Int))]) G dX10_scoreOf_56 (by decide) rfl ?_
        refine wp_lload G 0 dX10_scoreOf_58 rfl ?_
        refine wp_aload_n G 1 dX10_scoreOf_60 rfl ?_
        refine wp_iload G 9 dX10_scoreOf_61 rfl ?_
        refine wp_iload G 5 dX10_scoreOf_63 rfl ?_
        refine wp_cVE (b := 64) (ci := 9) (as := [zI ((a + i : Nat) : Int), zI m]) (rest := [zJ (tlT q n (tx f) (sl f) ((a + i : Nat) : Int))]) (hp2 := (nx, h, [(82, oA 0 4 R3)])) G mX10_hasQuake lX10_280 iX10_hasQuake eX10_hasQuake ⟨_, rfl, rfl⟩ dX10_scoreOf_65 h64 rfl rfl (Nat.le_of_ble_eq_true rfl) (rmx_ok hR (by decide) (by decide) (by decide) (by decide)) (t_X10_hasQuake (nx := nx) (d := ((a + i : Nat) : Int)) (m := m) hQ hO hN (by omega) ri_m) rfl ?_
        refine wp_ifeq_bt G dX10_scoreOf_68 (fun kq4 => ?_) (fun kq4 => ?_)
        · skip
          refine wp_lconst (z := 0) G dX10_scoreOf_77 (by decide) ?_
          refine wp_lsub G dX10_scoreOf_78 ?_
          refine wp_lstore (lv' := [(12, zJ (tlT q n (tx f) (sl f) ((a + i : Nat) : Int) - 0)), (10, zJ (tlT q n (tx f) (sl f) ((a + i : Nat) : Int))), (0, zR 64), (1, zI ((f : Nat) : Int)), (2, zI ((g : Nat) : Int)), (3, zI w), (4, zI m), (5, zI ((a : Nat) : Int)), (6, zI ((b : Nat) : Int)), (7, zJ (scZ (tlT q n (tx f) (sl f)) (tlT q n (tx g) (sl g)) (dueZ q n m) w ((a : Nat) : Int) (i))), (9, zI ((a + i : Nat) : Int))]) G dX10_scoreOf_79 (by decide) rfl ?_
          refine wp_lload G 9 dX10_scoreOf_81 rfl ?_
          refine wp_lload G 0 dX10_scoreOf_83 rfl ?_
          refine wp_lload G 0 dX10_scoreOf_85 rfl ?_
          refine wp_lmul G dX10_scoreOf_87 ?_
          refine wp_ladd G dX10_scoreOf_88 ?_
          refine wp_lstore (lv' := [(7, zJ (scZ (tlT q n (tx f) (sl f)) (tlT q n (tx g) (sl g)) (dueZ q n m) w ((a : Nat) : Int) (i) + ((tlT q n (tx f) (sl f) ((a + i : Nat) : Int) - 0) * (tlT q n (tx f) (sl f) ((a + i : Nat) : Int) - 0)))), (12, zJ (tlT q n (tx f) (sl f) ((a + i : Nat) : Int) - 0)), (10, zJ (tlT q n (tx f) (sl f) ((a + i : Nat) : Int))), (0, zR 64), (1, zI ((f : Nat) : Int)), (2, zI ((g : Nat) : Int)), (3, zI w), (4, zI m), (5, zI ((a : Nat) : Int)), (6, zI ((b : Nat) : Int)), (9, zI ((a + i : Nat) : Int))]) G dX10_scoreOf_89 (by decide) rfl ?_
          refine wp_iinc (lv' := [(9, zI (((a + i : Nat) : Int) + 1)), (7, zJ (scZ (tlT q n (tx f) (sl f)) (tlT q n (tx g) (sl g)) (dueZ q n m) w ((a : Nat) : Int) (i) + ((tlT q n (tx f) (sl f) ((a + i : Nat) : Int) - 0) * (tlT q n (tx f) (sl f) ((a + i : Nat) : Int) - 0)))), (12, zJ (tlT q n (tx f) (sl f) ((a + i : Nat) : Int) - 0)), (10, zJ (tlT q n (tx f) (sl f) ((a + i : Nat) : Int))), (0, zR 64), (1, zI ((f : Nat) : Int)), (2, zI ((g : Nat) : Int)), (3, zI w), (4, zI m), (5, zI ((a : Nat) : Int)), (6, zI ((b : Nat) : Int))]) G 10 dX10_scoreOf_91 rfl (by decide) rfl ?_
          refine wp_goto G dX10_scoreOf_94 ?_
          refine wp_lv [4, 5, 6, 7, 8, 9, 10, 1, 0] rfl ?_
          exact ih7 (i + 1) R3 (scZ (tlT q n (tx f) (sl f)) (tlT q n (tx g) (sl g)) (dueZ q n m) w ((a : Nat) : Int) (i) + ((tlT q n (tx f) (sl f) ((a + i : Nat) : Int) - 0) * (tlT q n (tx f) (sl f) ((a + i : Nat) : Int) - 0))) (((a + i : Nat) : Int) + 1) (by omega) (by exact sc_b (by first | (obtain rfl := Int.ofNat.inj kq2; unfold ofZ dueZ; rw [mix_same]; first | rw [ifZ_y ‹_›] | rw [ifZ_n ‹_›]) | (unfold ofZ dueZ; first | rw [ifZ_y ‹_›] | rw [ifZ_n ‹_›]))) (by omega) (by omega)
        · skip
          refine wp_ldc2 (z := 1000) G kX10_283 dX10_scoreOf_71 ?_
          refine wp_goto G dX10_scoreOf_74 ?_
          refine wp_lsub G dX10_scoreOf_78 ?_
          refine wp_lstore (lv' := [(12, zJ (tlT q n (tx f) (sl f) ((a + i : Nat) : Int) - 1000)), (10, zJ (tlT q n (tx f) (sl f) ((a + i : Nat) : Int))), (0, zR 64), (1, zI ((f : Nat) : Int)), (2, zI ((g : Nat) : Int)), (3, zI w), (4, zI m), (5, zI ((a : Nat) : Int)), (6, zI ((b : Nat) : Int)), (7, zJ (scZ (tlT q n (tx f) (sl f)) (tlT q n (tx g) (sl g)) (dueZ q n m) w ((a : Nat) : Int) (i))), (9, zI ((a + i : Nat) : Int))]) G dX10_scoreOf_79 (by decide) rfl ?_
          refine wp_lload G 9 dX10_scoreOf_81 rfl ?_
          refine wp_lload G 0 dX10_scoreOf_83 rfl ?_
          refine wp_lload G 0 dX10_scoreOf_85 rfl ?_
          refine wp_lmul G dX10_scoreOf_87 ?_
          refine wp_ladd G dX10_scoreOf_88 ?_
          refine wp_lstore (lv' := [(7, zJ (scZ (tlT q n (tx f) (sl f)) (tlT q n (tx g) (sl g)) (dueZ q n m) w ((a : Nat) : Int) (i) + ((tlT q n (tx f) (sl f) ((a + i : Nat) : Int) - 1000) * (tlT q n (tx f) (sl f) ((a + i : Nat) : Int) - 1000)))), (12, zJ (tlT q n (tx f) (sl f) ((a + i : Nat) : Int) - 1000)), (10, zJ (tlT q n (tx f) (sl f) ((a + i : Nat) : Int))), (0, zR 64), (1, zI ((f : Nat) : Int)), (2, zI ((g : Nat) : Int)), (3, zI w), (4, zI m), (5, zI ((a : Nat) : Int)), (6, zI ((b : Nat) : Int)), (9, zI ((a + i : Nat) : Int))]) G dX10_scoreOf_89 (by decide) rfl ?_
          refine wp_iinc (lv' := [(9, zI (((a + i : Nat) : Int) + 1)), (7, zJ (scZ (tlT q n (tx f) (sl f)) (tlT q n (tx g) (sl g)) (dueZ q n m) w ((a : Nat) : Int) (i) + ((tlT q n (tx f) (sl f) ((a + i : Nat) : Int) - 1000) * (tlT q n (tx f) (sl f) ((a + i : Nat) : Int) - 1000)))), (12, zJ (tlT q n (tx f) (sl f) ((a + i : Nat) : Int) - 1000)), (10, zJ (tlT q n (tx f) (sl f) ((a + i : Nat) : Int))), (0, zR 64), (1, zI ((f : Nat) : Int)), (2, zI ((g : Nat) : Int)), (3, zI w), (4, zI m), (5, zI ((a : Nat) : Int)), (6, zI ((b : Nat) : Int))]) G 10 dX10_scoreOf_91 rfl (by decide) rfl ?_
          refine wp_goto G dX10_scoreOf_94 ?_
          refine wp_lv [4, 5, 6, 7, 8, 9, 10, 1, 0] rfl ?_
          exact ih7 (i + 1) R3 (scZ (tlT q n (tx f) (sl f)) (tlT q n (tx g) (sl g)) (dueZ q n m) w ((a : Nat) : Int) (i) + ((tlT q n (tx f) (sl f) ((a + i : Nat) : Int) - 1000) * (tlT q n (tx f) (sl f) ((a + i : Nat) : Int) - 1000))) (((a + i : Nat) : Int) + 1) (by omega) (by exact sc_b (by first | (obtain rfl := Int.ofNat.inj kq2; unfold ofZ dueZ; rw [mix_same]; first | rw [ifZ_y ‹_›] | rw [ifZ_n ‹_›]) | (unfold ofZ dueZ; first | rw [ifZ_y ‹_›] | rw [ifZ_n ‹_›]))) (by omega) (by omega)

set_option maxRecDepth 100000 in
set_option maxHeartbeats 4000000 in
theorem t_X10_listedA {nx : Nat} {h : Nat → Option PC} {n : Nat} {q : Nat → Nat → Int} {o : Nat → Nat} {fc : Nat} {hn : Nat} {ln : Nat} {ma : Int} {mb : Int} {st : Nat → Int} {A : Nat → Int} {B : Nat → Int} {J : Nat → Int} {a : Int} (hQ : isM h n q o fc hn ln ma mb st) (hO : okQ n q o) (hN : okN st) (hJ : isMj h A B J) (ri_a : r32 a) : Cx 0 (0, 0) yX10_listed cX10_listed 5 (some .int) [zR 64, zI a, zI 1] nx h (fun rr nx' l' => ∃ (R : Nat → Int), (∀ j, j < n → q 0 j = a → cN q a j < 12 → R (cN q a j) = ((j : Nat) : Int)) ∧ rr = some (zI ((cN q a n : Nat) : Int)) ∧ nx' = nx ∧ l' = [(74, oA 0 12 R)]) := by
  refine cx_of pnX10_listed (Nat.le_of_ble_eq_true rfl) ?_
  intro K G hr hnm hR
  obtain ⟨h64, h65, h66, h67, h68, h69, h70, h71, h72, h73⟩ := id hQ
  have hn40 := hO.1
  obtain ⟨hN0, hN1, hN2, hN3, hN4⟩ := id hN
  obtain ⟨h74, h75, h76⟩ := id hJ
  show Wp K 5 (Mx K h (fun rr nx' l' => ∃ (R : Nat → Int), (∀ j, j < n → q 0 j = a → cN q a j < 12 → R (cN q a j) = ((j : Nat) : Int)) ∧ rr = some (zI ((cN q a n : Nat) : Int)) ∧ nx' = nx ∧ l' = [(74, oA 0 12 R)]) (0, 0)) (0, 0) 0 [(0, zR 64), (1, zI a), (2, zI 1)] [] (nx, h, [])
  refine wp_iconst G dX10_listed_0 ?_
  refine wp_istore_n (lv' := [(3, zI 0), (0, zR 64), (1, zI a), (2, zI 1)]) G dX10_listed_1 (by decide) rfl ?_
  refine wp_iconst G dX10_listed_2 ?_
  refine wp_istore (lv' := [(4, zI 0), (3, zI 0), (0, zR 64), (1, zI a), (2, zI 1)]) G dX10_listed_3 (by decide) rfl ?_
  refine wp_own (r := 74) (hp2 := (nx, h, [(74, oA 0 12 A)])) h74 rfl ?_
  refine wp_lv [2, 3, 4, 1, 0] rfl ?_
  suffices lp5 : ∀ (fu : Nat) (i : Nat) (R : Nat → Int) (v3 : Int) (v4 : Int), n - i < fu → (v3 = ((cN q a i : Nat) : Int)) → (v4 = ((i : Nat) : Int)) → (i ≤ n) → (∀ j, j < i → q 0 j = a → cN q a j < 12 → R (cN q a j) = ((j : Nat) : Int)) → Wp K 5 (Mx K h (fun rr nx' l' => ∃ (R : Nat → Int), (∀ j, j < n → q 0 j = a → cN q a j < 12 → R (cN q a j) = ((j : Nat) : Int)) ∧ rr = some (zI ((cN q a n : Nat) : Int)) ∧ nx' = nx ∧ l' = [(74, oA 0 12 R)]) (0, 0)) (0, 0) 5 [(0, zR 64), (1, zI a), (2, zI 1), (3, zI v3), (4, zI v4)] [] (nx, h, [(74, oA 0 12 R)]) from lp5 _ 0 A 0 0 (Nat.lt_succ_self _) (by rfl) (by omega) (by omega) (by intro j hj; omega)
  intro fu
  induction fu with
  | zero => intro i R v3 v4 hm; exact absurd hm (Nat.not_lt_zero _)
  | succ fu ih5 =>
    intro i R v3 v4 hm5 e3 e4 hi0 hR
    subst e3
    subst e4
    have hcl := cN_le q a i
    refine wp_iload G 4 dX10_listed_5 rfl ?_
    refine wp_aload_n G 0 dX10_listed_7 rfl ?_
    refine wp_get G 7 cOk9 fX10_96 dX10_listed_8 h64 rfl ?_
    refine wp_icmp_ge G dX10_listed_11 (by omega) (by omega) (fun kq1 => ?_) (fun kq1 => ?_)
    · skip
      refine wp_iload_n G 3 dX10_listed_69 rfl ?_
      exact wp_ireturn G hr dX10_listed_70 ⟨R, by rw [← show i = n by omega]; exact hR, by rw [show i = n by omega], rfl, by rfl⟩
    · skip
      refine wp_aload_n G 0 dX10_listed_14 rfl ?_
      refine wp_get G 0 cOk9 fX10_7 dX10_listed_15 h64 rfl ?_
      refine wp_iload G 4 dX10_listed_18 rfl ?_
      refine wp_iald (j := i) G dX10_listed_20 h65 rfl (by omega) (by decide) ?_
      have rrq1 := hO.l i (by omega)
      refine wp_iload_n G 1 dX10_listed_21 rfl ?_
      refine wp_icmp_ne G dX10_listed_22 (by omega) (by omega) (fun kq2 => ?_) (fun kq2 => ?_)
      · skip
        refine wp_iinc (lv' := [(4, zI (((i : Nat) : Int) + 1)), (0, zR 64), (1, zI a), (2, zI 1), (3, zI ((cN q a i : Nat) : Int))]) G 4 dX10_listed_63 rfl (by decide) rfl ?_
        refine wp_goto G dX10_listed_66 ?_
        refine wp_lv [1, 2, 3, 4, 0] rfl ?_
        exact ih5 (i + 1) R ((cN q a i : Nat) : Int) (((i : Nat) : Int) + 1) (by omega) (by first | (rw [cN_y (by omega)]; rfl) | (rw [cN_n (by omega)])) (by omega) (by omega) (by first | (exact cN_put hR) | (exact cN_no hR (Or.inl (by omega))) | (exact cN_no hR (Or.inr (by omega))))
      · skip
        refine wp_iload_n G 3 dX10_listed_25 rfl ?_
        refine wp_bipush G dX10_listed_26 (by decide) ?_
        refine wp_icmp_ge G dX10_listed_28 (by omega) (by omega) (fun kq3 => ?_) (fun kq3 => ?_)
        · skip
          refine wp_iload_n G 3 dX10_listed_46 rfl ?_
          refine wp_bipush G dX10_listed_47 (by decide) ?_
          refine wp_icmp_ge G dX10_listed_49 (by omega) (by omega) (fun kq4 => ?_) (fun kq4 => ?_)
          · skip
            refine wp_iinc (lv' := [(3, zI (((cN q a i : Nat) : Int) + 1)), (0, zR 64), (1, zI a), (2, zI 1), (4, zI ((i : Nat) : Int))]) G 3 dX10_listed_60 rfl (by decide) rfl ?_
            refine wp_iinc (lv' := [(4, zI (((i : Nat) : Int) + 1)), (3, zI (((cN q a i : Nat) : Int) + 1)), (0, zR 64), (1, zI a), (2, zI 1)]) G 4 dX10_listed_63 rfl (by decide) rfl ?_
            refine wp_goto G dX10_listed_66 ?_
            refine wp_lv [2, 3, 4, 1, 0] rfl ?_
            exact ih5 (i + 1) R (((cN q a i : Nat) : Int) + 1) (((i : Nat) : Int) + 1) (by omega) (by first | (rw [cN_y (by omega)]; rfl) | (rw [cN_n (by omega)])) (by omega) (by omega) (by first | (exact cN_put hR) | (exact cN_no hR (Or.inl (by omega))) | (exact cN_no hR (Or.inr (by omega))))
          · skip
            exfalso; omega
        · skip
          refine wp_iload_n G 2 dX10_listed_31 rfl ?_
          refine wp_if_eq G dX10_listed_32 (by omega) (fun z => by exfalso; omega) (fun _ => ?_)
          refine wp_aload_n G 0 dX10_listed_35 rfl ?_
          refine wp_get G 10 cOk9 fX10_38 dX10_listed_36 h64 rfl ?_
          refine wp_iload_n G 3 dX10_listed_39 rfl ?_
          refine wp_iload G 4 dX10_listed_40 rfl ?_
          refine wp_iastE (j := cN q a i) (hp2 := (nx, h, [(74, oA 0 12 (fup R (cN q a i) ((i : Nat) : Int)))])) G dX10_listed_42 rfl rfl (by omega) (by decide) rfl ?_
          refine wp_goto G dX10_listed_43 ?_
          refine wp_iinc (lv' := [(3, zI (((cN q a i : Nat) : Int) + 1)), (0, zR 64), (1, zI a), (2, zI 1), (4, zI ((i : Nat) : Int))]) G 3 dX10_listed_60 rfl (by decide) rfl ?_
          refine wp_iinc (lv' := [(4, zI (((i : Nat) : Int) + 1)), (3, zI (((cN q a i : Nat) : Int) + 1)), (0, zR 64), (1, zI a), (2, zI 1)]) G 4 dX10_listed_63 rfl (by decide) rfl ?_
          refine wp_goto G dX10_listed_66 ?_
          refine wp_lv [2, 3, 4, 1, 0] rfl ?_
          exact ih5 (i + 1) (fup R (cN q a i) ((i : Nat) : Int)) (((cN q a i : Nat) : Int) + 1) (((i : Nat) : Int) + 1) (by omega) (by first | (rw [cN_y (by omega)]; rfl) | (rw [cN_n (by omega)])) (by omega) (by omega) (by first | (exact cN_put hR) | (exact cN_no hR (Or.inl (by omega))) | (exact cN_no hR (Or.inr (by omega))))

set_option maxRecDepth 100000 in
set_option maxHeartbeats 4000000 in
theorem t_X10_listedB {nx : Nat} {h : Nat → Option PC} {n : Nat} {q : Nat → Nat → Int} {o : Nat → Nat} {fc : Nat} {hn : Nat} {ln : Nat} {ma : Int} {mb : Int} {st : Nat → Int} {A : Nat → Int} {B : Nat → Int} {J : Nat → Int} {a : Int} (hQ : isM h n q o fc hn ln ma mb st) (hO : okQ n q o) (hN : okN st) (hJ : isMj h A B J) (ri_a : r32 a) : Cx 0 (0, 0) yX10_listed cX10_listed 5 (some .int) [zR 64, zI a, zI 0] nx h (fun rr nx' l' => ∃ (R : Nat → Int), (∀ j, j < n → q 0 j = a → cN q a j < 12 → R (cN q a j) = ((j : Nat) : Int)) ∧ rr = some (zI ((cN q a n : Nat) : Int)) ∧ nx' = nx ∧ l' = [(75, oA 0 12 R)]) := by
  refine cx_of pnX10_listed (Nat.le_of_ble_eq_true rfl) ?_
  intro K G hr hnm hR
  obtain ⟨h64, h65, h66, h67, h68, h69, h70, h71, h72, h73⟩ := id hQ
  have hn40 := hO.1
  obtain ⟨hN0, hN1, hN2, hN3, hN4⟩ := id hN
  obtain ⟨h74, h75, h76⟩ := id hJ
  show Wp K 5 (Mx K h (fun rr nx' l' => ∃ (R : Nat → Int), (∀ j, j < n → q 0 j = a → cN q a j < 12 → R (cN q a j) = ((j : Nat) : Int)) ∧ rr = some (zI ((cN q a n : Nat) : Int)) ∧ nx' = nx ∧ l' = [(75, oA 0 12 R)]) (0, 0)) (0, 0) 0 [(0, zR 64), (1, zI a), (2, zI 0)] [] (nx, h, [])
  refine wp_iconst G dX10_listed_0 ?_
  refine wp_istore_n (lv' := [(3, zI 0), (0, zR 64), (1, zI a), (2, zI 0)]) G dX10_listed_1 (by decide) rfl ?_
  refine wp_iconst G dX10_listed_2 ?_
  refine wp_istore (lv' := [(4, zI 0), (3, zI 0), (0, zR 64), (1, zI a), (2, zI 0)]) G dX10_listed_3 (by decide) rfl ?_
  refine wp_own (r := 75) (hp2 := (nx, h, [(75, oA 0 12 B)])) h75 rfl ?_
  refine wp_lv [2, 3, 4, 1, 0] rfl ?_
  suffices lp5 : ∀ (fu : Nat) (i : Nat) (R : Nat → Int) (v3 : Int) (v4 : Int), n - i < fu → (v3 = ((cN q a i : Nat) : Int)) → (v4 = ((i : Nat) : Int)) → (i ≤ n) → (∀ j, j < i → q 0 j = a → cN q a j < 12 → R (cN q a j) = ((j : Nat) : Int)) → Wp K 5 (Mx K h (fun rr nx' l' => ∃ (R : Nat → Int), (∀ j, j < n → q 0 j = a → cN q a j < 12 → R (cN q a j) = ((j : Nat) : Int)) ∧ rr = some (zI ((cN q a n : Nat) : Int)) ∧ nx' = nx ∧ l' = [(75, oA 0 12 R)]) (0, 0)) (0, 0) 5 [(0, zR 64), (1, zI a), (2, zI 0), (3, zI v3), (4, zI v4)] [] (nx, h, [(75, oA 0 12 R)]) from lp5 _ 0 B 0 0 (Nat.lt_succ_self _) (by rfl) (by omega) (by omega) (by intro j hj; omega)
  intro fu
  induction fu with
  | zero => intro i R v3 v4 hm; exact absurd hm (Nat.not_lt_zero _)
  | succ fu ih5 =>
    intro i R v3 v4 hm5 e3 e4 hi0 hR
    subst e3
    subst e4
    have hcl := cN_le q a i
    refine wp_iload G 4 dX10_listed_5 rfl ?_
    refine wp_aload_n G 0 dX10_listed_7 rfl ?_
    refine wp_get G 7 cOk9 fX10_96 dX10_listed_8 h64 rfl ?_
    refine wp_icmp_ge G dX10_listed_11 (by omega) (by omega) (fun kq1 => ?_) (fun kq1 => ?_)
    · skip
      refine wp_iload_n G 3 dX10_listed_69 rfl ?_
      exact wp_ireturn G hr dX10_listed_70 ⟨R, by rw [← show i = n by omega]; exact hR, by rw [show i = n by omega], rfl, by rfl⟩
    · skip
      refine wp_aload_n G 0 dX10_listed_14 rfl ?_
      refine wp_get G 0 cOk9 fX10_7 dX10_listed_15 h64 rfl ?_
      refine wp_iload G 4 dX10_listed_18 rfl ?_
      refine wp_iald (j := i) G dX10_listed_20 h65 rfl (by omega) (by decide) ?_
      have rrq1 := hO.l i (by omega)
      refine wp_iload_n G 1 dX10_listed_21 rfl ?_
      refine wp_icmp_ne G dX10_listed_22 (by omega) (by omega) (fun kq2 => ?_) (fun kq2 => ?_)
      · skip
        refine wp_iinc (lv' := [(4, zI (((i : Nat) : Int) + 1)), (0, zR 64), (1, zI a), (2, zI 0), (3, zI ((cN q a i : Nat) : Int))]) G 4 dX10_listed_63 rfl (by decide) rfl ?_
        refine wp_goto G dX10_listed_66 ?_
        refine wp_lv [1, 2, 3, 4, 0] rfl ?_
        exact ih5 (i + 1) R ((cN q a i : Nat) : Int) (((i : Nat) : Int) + 1) (by omega) (by first | (rw [cN_y (by omega)]; rfl) | (rw [cN_n (by omega)])) (by omega) (by omega) (by first | (exact cN_put hR) | (exact cN_no hR (Or.inl (by omega))) | (exact cN_no hR (Or.inr (by omega))))
      · skip
        refine wp_iload_n G 3 dX10_listed_25 rfl ?_
        refine wp_bipush G dX10_listed_26 (by decide) ?_
        refine wp_icmp_ge G dX10_listed_28 (by omega) (by omega) (fun kq3 => ?_) (fun kq3 => ?_)
        · skip
          refine wp_iload_n G 3 dX10_listed_46 rfl ?_
          refine wp_bipush G dX10_listed_47 (by decide) ?_
          refine wp_icmp_ge G dX10_listed_49 (by omega) (by omega) (fun kq4 => ?_) (fun kq4 => ?_)
          · skip
            refine wp_iinc (lv' := [(3, zI (((cN q a i : Nat) : Int) + 1)), (0, zR 64), (1, zI a), (2, zI 0), (4, zI ((i : Nat) : Int))]) G 3 dX10_listed_60 rfl (by decide) rfl ?_
            refine wp_iinc (lv' := [(4, zI (((i : Nat) : Int) + 1)), (3, zI (((cN q a i : Nat) : Int) + 1)), (0, zR 64), (1, zI a), (2, zI 0)]) G 4 dX10_listed_63 rfl (by decide) rfl ?_
            refine wp_goto G dX10_listed_66 ?_
            refine wp_lv [2, 3, 4, 1, 0] rfl ?_
            exact ih5 (i + 1) R (((cN q a i : Nat) : Int) + 1) (((i : Nat) : Int) + 1) (by omega) (by first | (rw [cN_y (by omega)]; rfl) | (rw [cN_n (by omega)])) (by omega) (by omega) (by first | (exact cN_put hR) | (exact cN_no hR (Or.inl (by omega))) | (exact cN_no hR (Or.inr (by omega))))
          · skip
            refine wp_aload_n G 0 dX10_listed_52 rfl ?_
            refine wp_get G 11 cOk9 fX10_41 dX10_listed_53 h64 rfl ?_
            refine wp_iload_n G 3 dX10_listed_56 rfl ?_
            refine wp_iload G 4 dX10_listed_57 rfl ?_
            refine wp_iastE (j := cN q a i) (hp2 := (nx, h, [(75, oA 0 12 (fup R (cN q a i) ((i : Nat) : Int)))])) G dX10_listed_59 rfl rfl (by omega) (by decide) rfl ?_
            refine wp_iinc (lv' := [(3, zI (((cN q a i : Nat) : Int) + 1)), (0, zR 64), (1, zI a), (2, zI 0), (4, zI ((i : Nat) : Int))]) G 3 dX10_listed_60 rfl (by decide) rfl ?_
            refine wp_iinc (lv' := [(4, zI (((i : Nat) : Int) + 1)), (3, zI (((cN q a i : Nat) : Int) + 1)), (0, zR 64), (1, zI a), (2, zI 0)]) G 4 dX10_listed_63 rfl (by decide) rfl ?_
            refine wp_goto G dX10_listed_66 ?_
            refine wp_lv [2, 3, 4, 1, 0] rfl ?_
            exact ih5 (i + 1) (fup R (cN q a i) ((i : Nat) : Int)) (((cN q a i : Nat) : Int) + 1) (((i : Nat) : Int) + 1) (by omega) (by first | (rw [cN_y (by omega)]; rfl) | (rw [cN_n (by omega)])) (by omega) (by omega) (by first | (exact cN_put hR) | (exact cN_no hR (Or.inl (by omega))) | (exact cN_no hR (Or.inr (by omega))))
        · skip
          refine wp_iload_n G 2 dX10_listed_31 rfl ?_
          refine wp_if_eq G dX10_listed_32 (by omega) (fun _ => ?_) (fun z => by exfalso; omega)
          refine wp_iload_n G 3 dX10_listed_46 rfl ?_
          refine wp_bipush G dX10_listed_47 (by decide) ?_
          refine wp_icmp_ge G dX10_listed_49 (by omega) (by omega) (fun kq6 => ?_) (fun kq6 => ?_)
          · skip
            refine wp_iinc (lv' := [(3, zI (((cN q a i : Nat) : Int) + 1)), (0, zR 64), (1, zI a), (2, zI 0), (4, zI ((i : Nat) : Int))]) G 3 dX10_listed_60 rfl (by decide) rfl ?_
            refine wp_iinc (lv' := [(4, zI (((i : Nat) : Int) + 1)), (3, zI (((cN q a i : Nat) : Int) + 1)), (0, zR 64), (1, zI a), (2, zI 0)]) G 4 dX10_listed_63 rfl (by decide) rfl ?_
            refine wp_goto G dX10_listed_66 ?_
            refine wp_lv [2, 3, 4, 1, 0] rfl ?_
            exact ih5 (i + 1) R (((cN q a i : Nat) : Int) + 1) (((i : Nat) : Int) + 1) (by omega) (by first | (rw [cN_y (by omega)]; rfl) | (rw [cN_n (by omega)])) (by omega) (by omega) (by first | (exact cN_put hR) | (exact cN_no hR (Or.inl (by omega))) | (exact cN_no hR (Or.inr (by omega))))
          · skip
            refine wp_aload_n G 0 dX10_listed_52 rfl ?_
            refine wp_get G 11 cOk9 fX10_41 dX10_listed_53 h64 rfl ?_
            refine wp_iload_n G 3 dX10_listed_56 rfl ?_
            refine wp_iload G 4 dX10_listed_57 rfl ?_
            refine wp_iastE (j := cN q a i) (hp2 := (nx, h, [(75, oA 0 12 (fup R (cN q a i) ((i : Nat) : Int)))])) G dX10_listed_59 rfl rfl (by omega) (by decide) rfl ?_
            refine wp_iinc (lv' := [(3, zI (((cN q a i : Nat) : Int) + 1)), (0, zR 64), (1, zI a), (2, zI 0), (4, zI ((i : Nat) : Int))]) G 3 dX10_listed_60 rfl (by decide) rfl ?_
            refine wp_iinc (lv' := [(4, zI (((i : Nat) : Int) + 1)), (3, zI (((cN q a i : Nat) : Int) + 1)), (0, zR 64), (1, zI a), (2, zI 0)]) G 4 dX10_listed_63 rfl (by decide) rfl ?_
            refine wp_goto G dX10_listed_66 ?_
            refine wp_lv [2, 3, 4, 1, 0] rfl ?_
            exact ih5 (i + 1) (fup R (cN q a i) ((i : Nat) : Int)) (((cN q a i : Nat) : Int) + 1) (((i : Nat) : Int) + 1) (by omega) (by first | (rw [cN_y (by omega)]; rfl) | (rw [cN_n (by omega)])) (by omega) (by omega) (by first | (exact cN_put hR) | (exact cN_no hR (Or.inl (by omega))) | (exact cN_no hR (Or.inr (by omega))))

set_option maxRecDepth 100000 in
set_option maxHeartbeats 4000000 in
theorem t_X10_missOf {nx : Nat} {h : Nat → Option PC} {n : Nat} {q : Nat → Nat → Int} {o : Nat → Nat} {fc : Nat} {hn : Nat} {ln : Nat} {ma : Int} {mb : Int} {st : Nat → Int} {i : Nat} {j : Nat} (hQ : isM h n q o fc hn ln ma mb st) (hO : okQ n q o) (hN : okN st) (hi : i < n) (hj : j < n) : Cx 2 (0, 0) yX10_missOf cX10_missOf 6 (some .int) [zR 64, zI ((i : Nat) : Int), zI ((j : Nat) : Int)] nx h (Rt (zI (msZ q st i j)) nx []) := by
  refine cx_of pnX10_missOf (Nat.le_of_ble_eq_true rfl) ?_
  intro K G hr hnm hR
  obtain ⟨h64, h65, h66, h67, h68, h69, h70, h71, h72, h73⟩ := id hQ
  have hn40 := hO.1
  obtain ⟨hN0, hN1, hN2, hN3, hN4⟩ := id hN
  have hf1 := farZ_b (hO.x i (by omega)) (hO.y i (by omega)) (hO.x j (by omega)) (hO.y j (by omega))
  have hd1 := hO.d i (by omega)
  have hd2 := hO.d j (by omega)
  have hg1 := hO.g i (by omega)
  have hg2 := hO.g j (by omega)
  have ha1 : 0 ≤ (if 0 ≤ (q 1 i - q 1 j) then (q 1 i - q 1 j) else -(q 1 i - q 1 j)) ∧ (if 0 ≤ (q 1 i - q 1 j) then (q 1 i - q 1 j) else -(q 1 i - q 1 j)) ≤ 3999 := by split <;> omega
  have ha2 : 0 ≤ (if 0 ≤ (q 4 i - q 4 j) then (q 4 i - q 4 j) else -(q 4 i - q 4 j)) ∧ (if 0 ≤ (q 4 i - q 4 j) then (q 4 i - q 4 j) else -(q 4 i - q 4 j)) ≤ 90 := by split <;> omega
  show Wp K 6 (Mx K h (Rt (zI (msZ q st i j)) nx []) (0, 0)) (0, 0) 0 [(0, zR 64), (1, zI ((i : Nat) : Int)), (2, zI ((j : Nat) : Int))] [] (nx, h, [])
  refine wp_aload_n G 0 dX10_missOf_0 rfl ?_
  refine wp_get G 1 cOk9 fX10_13 dX10_missOf_1 h64 rfl ?_
  refine wp_iload_n G 1 dX10_missOf_4 rfl ?_
  refine wp_iald (j := i) G dX10_missOf_5 h66 rfl (by omega) (by decide) ?_
  have rrq1 := hO.d i (by omega)
  refine wp_aload_n G 0 dX10_missOf_6 rfl ?_
  refine wp_get G 1 cOk9 fX10_13 dX10_missOf_7 h64 rfl ?_
  refine wp_iload_n G 2 dX10_missOf_10 rfl ?_
  refine wp_iald (j := j) G dX10_missOf_11 h66 rfl (by omega) (by decide) ?_
  have rrq2 := hO.d j (by omega)
  refine wp_isub G dX10_missOf_12 ?_
  refine wp_cSE (as := [zI (((q 1) i) - ((q 1) j))]) (rest := []) (hp2 := (nx, h, [])) G mX10_size lX10_139 sX10_size dX10_missOf_13 rfl rfl (Nat.le_of_ble_eq_true rfl) (rmx_ok hR (by decide) (by decide) (by decide) (by decide)) (t_X10_size (nx := nx) (a := (((q 1) i) - ((q 1) j))) (by omega)) rfl ?_
  refine wp_istore_n (lv' := [(3, zI (if 0 ≤ (((q 1) i) - ((q 1) j)) then (((q 1) i) - ((q 1) j)) else -(((q 1) i) - ((q 1) j)))), (0, zR 64), (1, zI ((i : Nat) : Int)), (2, zI ((j : Nat) : Int))]) G dX10_missOf_16 (by decide) rfl ?_
  refine wp_aload_n G 1 dX10_missOf_17 rfl ?_
  refine wp_get G 2 cOk9 fX10_16 dX10_missOf_18 h64 rfl ?_
  refine wp_iload_n G 2 dX10_missOf_21 rfl ?_
  refine wp_iald (j := i) G dX10_missOf_22 h67 rfl (by omega) (by decide) ?_
  have rrq3 := hO.x i (by omega)
  refine wp_aload_n G 1 dX10_missOf_23 rfl ?_
  refine wp_get G 3 cOk9 fX10_19 dX10_missOf_24 h64 rfl ?_
  refine wp_iload_n G 2 dX10_missOf_27 rfl ?_
  refine wp_iald (j := i) G dX10_missOf_28 h68 rfl (by omega) (by decide) ?_
  have rrq4 := hO.y i (by omega)
  refine wp_aload_n G 1 dX10_missOf_29 rfl ?_
  refine wp_get G 2 cOk9 fX10_16 dX10_missOf_30 h64 rfl ?_
  refine wp_iload_n G 3 dX10_missOf_33 rfl ?_
  refine wp_iald (j := j) G dX10_missOf_34 h67 rfl (by omega) (by decide) ?_
  have rrq5 := hO.x j (by omega)
  refine wp_aload_n G 1 dX10_missOf_35 rfl ?_
  refine wp_get G 3 cOk9 fX10_19 dX10_missOf_36 h64 rfl ?_
  refine wp_iload_n G 3 dX10_missOf_39 rfl ?_
  refine wp_iald (j := j) G dX10_missOf_40 h68 rfl (by omega) (by decide) ?_
  have rrq6 := hO.y j (by omega)
  refine wp_cSE (as := [zI ((q 2) i), zI ((q 3) i), zI ((q 2) j), zI ((q 3) j)]) (rest := []) (hp2 := (nx, h, [])) G mX10_far lX10_142 sX10_far dX10_missOf_41 rfl rfl (Nat.le_of_ble_eq_true rfl) (rmx_ok hR (by decide) (by decide) (by decide) (by decide)) (t_X10_far (nx := nx) (a := ((q 2) i)) (b := ((q 3) i)) (c := ((q 2) j)) (e := ((q 3) j)) (hO.x i (by omega)) (hO.y i (by omega)) (hO.x j (by omega)) (hO.y j (by omega))) rfl ?_
  refine wp_istore (lv' := [(4, zI (farZ ((q 2) i) ((q 3) i) ((q 2) j) ((q 3) j))), (3, zI (if 0 ≤ (((q 1) i) - ((q 1) j)) then (((q 1) i) - ((q 1) j)) else -(((q 1) i) - ((q 1) j)))), (0, zR 64), (1, zI ((i : Nat) : Int)), (2, zI ((j : Nat) : Int))]) G dX10_missOf_44 (by decide) rfl ?_
  refine wp_aload_n G 2 dX10_missOf_46 rfl ?_
  refine wp_get G 4 cOk9 fX10_22 dX10_missOf_47 h64 rfl ?_
  refine wp_iload_n G 3 dX10_missOf_50 rfl ?_
  refine wp_iald (j := i) G dX10_missOf_51 h69 rfl (by omega) (by decide) ?_
  have rrq7 := hO.g i (by omega)
  refine wp_aload_n G 2 dX10_missOf_52 rfl ?_
  refine wp_get G 4 cOk9 fX10_22 dX10_missOf_53 h64 rfl ?_
  refine wp_iload_n G 4 dX10_missOf_56 rfl ?_
  refine wp_iald (j := j) G dX10_missOf_57 h69 rfl (by omega) (by decide) ?_
  have rrq8 := hO.g j (by omega)
  refine wp_isub G dX10_missOf_58 ?_
  refine wp_cSE (as := [zI (((q 4) i) - ((q 4) j))]) (rest := []) (hp2 := (nx, h, [])) G mX10_size lX10_139 sX10_size dX10_missOf_59 rfl rfl (Nat.le_of_ble_eq_true rfl) (rmx_ok hR (by decide) (by decide) (by decide) (by decide)) (t_X10_size (nx := nx) (a := (((q 4) i) - ((q 4) j))) (by omega)) rfl ?_
  refine wp_istore (lv' := [(5, zI (if 0 ≤ (((q 4) i) - ((q 4) j)) then (((q 4) i) - ((q 4) j)) else -(((q 4) i) - ((q 4) j)))), (4, zI (farZ ((q 2) i) ((q 3) i) ((q 2) j) ((q 3) j))), (3, zI (if 0 ≤ (((q 1) i) - ((q 1) j)) then (((q 1) i) - ((q 1) j)) else -(((q 1) i) - ((q 1) j)))), (0, zR 64), (1, zI ((i : Nat) : Int)), (2, zI ((j : Nat) : Int))]) G dX10_missOf_62 (by decide) rfl ?_
  refine wp_iload_n G 2 dX10_missOf_64 rfl ?_
  refine wp_aload_n G 3 dX10_missOf_65 rfl ?_
  refine wp_get G 8 cOk9 fX10_32 dX10_missOf_66 h64 rfl ?_
  refine wp_iconst G dX10_missOf_69 ?_
  refine wp_iald (j := 0) G dX10_missOf_70 h72 rfl (by decide) (by decide) ?_
  have rrq9 := hN.r 0 (by decide)
  refine wp_icmp_gt G dX10_missOf_71 (by omega) (by omega) (fun kq1 => ?_) (fun kq1 => ?_)
  · skip
    refine wp_iconst G dX10_missOf_96 ?_
    refine wp_goto G dX10_missOf_97 ?_
    exact wp_ireturn G hr dX10_missOf_107 ⟨by first | exact congrArg (fun z => some (zI z)) (if_pos ⟨by assumption, by assumption, by assumption⟩).symm | exact congrArg (fun z => some (zI z)) (if_neg (fun z => by have z1 := z.1; have z2 := z.2.1; have z3 := z.2.2; omega)).symm, rfl, by rfl⟩
  · skip
    refine wp_iload G 1 dX10_missOf_74 rfl ?_
    refine wp_aload_n G 3 dX10_missOf_76 rfl ?_
    refine wp_get G 8 cOk9 fX10_32 dX10_missOf_77 h64 rfl ?_
    refine wp_iconst G dX10_missOf_80 ?_
    refine wp_iald (j := 1) G dX10_missOf_81 h72 rfl (by decide) (by decide) ?_
    have rrq10 := hN.r 1 (by decide)
    refine wp_icmp_gt G dX10_missOf_82 (by omega) (by omega) (fun kq2 => ?_) (fun kq2 => ?_)
    · skip
      refine wp_iconst G dX10_missOf_96 ?_
      refine wp_goto G dX10_missOf_97 ?_
      exact wp_ireturn G hr dX10_missOf_107 ⟨by first | exact congrArg (fun z => some (zI z)) (if_pos ⟨by assumption, by assumption, by assumption⟩).symm | exact congrArg (fun z => some (zI z)) (if_neg (fun z => by have z1 := z.1; have z2 := z.2.1; have z3 := z.2.2; omega)).symm, rfl, by rfl⟩
    · skip
      refine wp_iload G 0 dX10_missOf_85 rfl ?_
      refine wp_aload_n G 3 dX10_missOf_87 rfl ?_
      refine wp_get G 8 cOk9 fX10_32 dX10_missOf_88 h64 rfl ?_
      refine wp_iconst G dX10_missOf_91 ?_
      refine wp_iald (j := 2) G dX10_missOf_92 h72 rfl (by decide) (by decide) ?_
      have rrq11 := hN.r 2 (by decide)
      refine wp_icmp_le G dX10_missOf_93 (by omega) (by omega) (fun kq3 => ?_) (fun kq3 => ?_)
      · skip
        refine wp_iload_n G 2 dX10_missOf_100 rfl ?_
        refine wp_iload G 1 dX10_missOf_101 rfl ?_
        refine wp_iadd G dX10_missOf_103 ?_
        refine wp_iload G 0 dX10_missOf_104 rfl ?_
        refine wp_iadd G dX10_missOf_106 ?_
        exact wp_ireturn G hr dX10_missOf_107 ⟨by first | exact congrArg (fun z => some (zI z)) (if_pos ⟨by assumption, by assumption, by assumption⟩).symm | exact congrArg (fun z => some (zI z)) (if_neg (fun z => by have z1 := z.1; have z2 := z.2.1; have z3 := z.2.2; omega)).symm, rfl, by rfl⟩
      · skip
        refine wp_iconst G dX10_missOf_96 ?_
        refine wp_goto G dX10_missOf_97 ?_
        exact wp_ireturn G hr dX10_missOf_107 ⟨by first | exact congrArg (fun z => some (zI z)) (if_pos ⟨by assumption, by assumption, by assumption⟩).symm | exact congrArg (fun z => some (zI z)) (if_neg (fun z => by have z1 := z.1; have z2 := z.2.1; have z3 := z.2.2; omega)).symm, rfl, by rfl⟩

