
set_option maxRecDepth 100000 in
set_option maxHeartbeats 4000000 in
theorem t_X10_tells {nx : Nat} {h : Nat → Option PC} {n : Nat} {q : Nat → Nat → Int} {o : Nat → Nat} {fc : Nat} {hn : Nat} {ln : Nat} {ma : Int} {mb : Int} {st : Nat → Int} {sm : Nat → Int} {sl : Nat → Nat} {ri : Nat → Int} {tx : Nat → Nat → Int} {v : Int} {d : Int} (hQ : isM h n q o fc hn ln ma mb st) (hO : okQ n q o) (hN : okN st) (hT : isMt h sm sl ri) (hsl : ∀ f, f < 7 → sl f ≤ 48) (hX : okX sm sl tx fc) (hfc : fc ≤ 6) (ri_v : r32 v) (ri_d : r32 d) : Cx 3 (0, 0) yX10_tells cX10_tells 3 (some .int) [zR 64, zI v, zI d] nx h (fun rr nx' l' => nx' = nx ∧ rr = some (zI (ansQ n q tx sl fc v d)) ∧ (l' = [] ∨ ∃ R, l' = [(82, oA 0 4 R)])) := by
  refine cx_of pnX10_tells (Nat.le_of_ble_eq_true rfl) ?_
  intro K G hr hnm hR
  obtain ⟨h64, h65, h66, h67, h68, h69, h70, h71, h72, h73⟩ := id hQ
  have hn40 := hO.1
  obtain ⟨hN0, hN1, hN2, hN3, hN4⟩ := id hN
  obtain ⟨h80, h81, h82⟩ := id hT
  have hsl6 := hsl 6 (by decide)
  show Wp K 3 (Mx K h (fun rr nx' l' => nx' = nx ∧ rr = some (zI (ansQ n q tx sl fc v d)) ∧ (l' = [] ∨ ∃ R, l' = [(82, oA 0 4 R)])) (0, 0)) (0, 0) 0 [(0, zR 64), (1, zI v), (2, zI d)] [] (nx, h, [])
  refine wp_aload_n G 0 dX10_tells_0 rfl ?_
  refine wp_iload_n G 1 dX10_tells_1 rfl ?_
  refine wp_cVE (b := 64) (ci := 9) (as := [zI v]) (rest := []) (hp2 := (nx, h, [])) G mX10_isForecast lX10_274 iX10_isForecast eX10_isForecast ⟨_, rfl, rfl⟩ dX10_tells_2 h64 rfl rfl (Nat.le_of_ble_eq_true rfl) (rmx_ok hR (by decide) (by decide) (by decide) (by decide)) (t_X10_isForecast (nx := nx) (v := v) hQ hO hN ri_v hfc) rfl ?_
  refine wp_ifne_bt G dX10_tells_5 (fun kq1 => ?_) (fun kq1 => ?_)
  · skip
    refine wp_iload_n G 2 dX10_tells_10 rfl ?_
    refine wp_cSE (as := [zI d]) (rest := []) (hp2 := (nx, h, [])) G mX10_isDay lX10_120 sX10_isDay dX10_tells_11 rfl rfl (Nat.le_of_ble_eq_true rfl) (rmx_ok hR (by decide) (by decide) (by decide) (by decide)) (t_X10_isDay (nx := nx) (v := d) (by omega)) rfl ?_
    refine wp_ifeq_bt G dX10_tells_14 (fun kq2 => ?_) (fun kq2 => ?_)
    · skip
      refine wp_bipush G dX10_tells_26 (by decide) ?_
      exact wp_ireturn G hr dX10_tells_28 (by first | exact ⟨rfl, by rw [ansQ, if_neg (by omega), if_pos (by omega)], Or.inl rfl⟩ | exact ⟨rfl, by rw [ansQ, if_neg (by omega), if_neg (by omega)]; rfl, Or.inr ⟨_, rfl⟩⟩)
    · skip
      obtain ⟨f, e_f⟩ := Int.eq_ofNat_of_zero_le (show 0 ≤ v from (by omega))
      subst e_f
      refine wp_aload_n G 0 dX10_tells_17 rfl ?_
      have h_f : f < fc := by omega
      have hX_f := hX f h_f
      have hXs_f : sl f ≤ 48 ∧ fltZ (tx f) (sl f) = -6 := ⟨hsl f (by omega), hX_f.2.1⟩
      refine wp_iload_n G 1 dX10_tells_18 rfl ?_
      refine wp_iload_n G 2 dX10_tells_19 rfl ?_
      refine wp_callV (mm := (0, 0)) (b := 64) (ci := 9) (as := [zI ((f : Nat) : Int), zI d]) (rest := []) G mX10_toldFor lX10_277 iX10_toldFor eX10_toldFor ⟨_, rfl, rfl⟩ dX10_tells_20 h64 rfl rfl (Nat.le_of_ble_eq_true rfl) (rmx_ok hR (by decide) (by decide) (by decide) (by decide)) (t_X10_toldFor (nx := nx) (f := f) (d := d) (sg := (tx f)) hQ hO hN hT hsl (by omega) hX_f.1 hX_f.2.1 hX_f.2.2 (by omega)) (fun rr nx' l' hq => ?_)
      obtain ⟨Rz , rfl , enx , rfl⟩ := hq
      subst nx'
      show Wp K 3 (Mx K h (fun rr nx' l' => nx' = nx ∧ rr = some (zI (ansQ n q tx sl fc ((f : Nat) : Int) d)) ∧ (l' = [] ∨ ∃ R, l' = [(82, oA 0 4 R)])) (0, 0)) (0, 0) 23 [(0, zR 64), (1, zI ((f : Nat) : Int)), (2, zI d)] [zI (tlT q n (tx f) (sl f) d)] (nx, h, [(82, oA 0 4 Rz)])
      refine wp_goto G dX10_tells_23 ?_
      exact wp_ireturn G hr dX10_tells_28 (by first | exact ⟨rfl, by rw [ansQ, if_neg (by omega), if_pos (by omega)], Or.inl rfl⟩ | exact ⟨rfl, by rw [ansQ, if_neg (by omega), if_neg (by omega)]; rfl, Or.inr ⟨_, rfl⟩⟩)
  · skip
    refine wp_iconst G dX10_tells_8 ?_
    exact wp_ireturn G hr dX10_tells_9 (by exact ⟨rfl, by rw [ansQ, if_pos (by omega)], Or.inl rfl⟩)

set_option maxRecDepth 100000 in
set_option maxHeartbeats 4000000 in
theorem t_X10_score {nx : Nat} {h : Nat → Option PC} {n : Nat} {q : Nat → Nat → Int} {o : Nat → Nat} {fc : Nat} {hn : Nat} {ln : Nat} {ma : Int} {mb : Int} {st : Nat → Int} {sm : Nat → Int} {sl : Nat → Nat} {ri : Nat → Int} {tx : Nat → Nat → Int} {v : Int} {m : Int} {a : Int} {b : Int} (hQ : isM h n q o fc hn ln ma mb st) (hO : okQ n q o) (hN : okN st) (hT : isMt h sm sl ri) (hsl : ∀ f, f < 7 → sl f ≤ 48) (hX : okX sm sl tx fc) (hfc : fc ≤ 6) (ri_v : r32 v) (ri_m : r32 m) (ri_a : r32 a) (ri_b : r32 b) : Cx 4 (0, 0) yX10_score cX10_score 5 (some .long) [zR 64, zI v, zI m, zI a, zI b] nx h (fun rr nx' l' => nx' = nx ∧ rr = some (zJ (ansY n q tx sl fc v v 10 m a b)) ∧ (l' = [] ∨ ∃ R, l' = [(82, oA 0 4 R)])) := by
  refine cx_of pnX10_score (Nat.le_of_ble_eq_true rfl) ?_
  intro K G hr hnm hR
  obtain ⟨h64, h65, h66, h67, h68, h69, h70, h71, h72, h73⟩ := id hQ
  have hn40 := hO.1
  obtain ⟨hN0, hN1, hN2, hN3, hN4⟩ := id hN
  obtain ⟨h80, h81, h82⟩ := id hT
  have hsl6 := hsl 6 (by decide)
  show Wp K 5 (Mx K h (fun rr nx' l' => nx' = nx ∧ rr = some (zJ (ansY n q tx sl fc v v 10 m a b)) ∧ (l' = [] ∨ ∃ R, l' = [(82, oA 0 4 R)])) (0, 0)) (0, 0) 0 [(0, zR 64), (1, zI v), (2, zI m), (3, zI a), (4, zI b)] [] (nx, h, [])
  refine wp_aload_n G 0 dX10_score_0 rfl ?_
  refine wp_iload_n G 1 dX10_score_1 rfl ?_
  refine wp_cVE (b := 64) (ci := 9) (as := [zI v]) (rest := []) (hp2 := (nx, h, [])) G mX10_isForecast lX10_274 iX10_isForecast eX10_isForecast ⟨_, rfl, rfl⟩ dX10_score_2 h64 rfl rfl (Nat.le_of_ble_eq_true rfl) (rmx_ok hR (by decide) (by decide) (by decide) (by decide)) (t_X10_isForecast (nx := nx) (v := v) hQ hO hN ri_v hfc) rfl ?_
  refine wp_ifne_bt G dX10_score_5 (fun kq1 => ?_) (fun kq1 => ?_)
  · skip
    refine wp_iload_n G 2 dX10_score_12 rfl ?_
    refine wp_iload_n G 3 dX10_score_13 rfl ?_
    refine wp_iload G 4 dX10_score_14 rfl ?_
    refine wp_cSE (as := [zI m, zI a, zI b]) (rest := []) (hp2 := (nx, h, [])) G mX10_areDays lX10_285 sX10_areDays dX10_score_16 rfl rfl (Nat.le_of_ble_eq_true rfl) (rmx_ok hR (by decide) (by decide) (by decide) (by decide)) (t_X10_areDays (nx := nx) (m := m) (v := a) (w := b) ri_m (by omega) (by omega)) rfl ?_
    refine wp_ifeq_bt G dX10_score_19 (fun kq2 => ?_) (fun kq2 => ?_)
    · skip
      refine wp_ldc2 (z := -1000000000000000002) G kX10_184 dX10_score_37 ?_
      exact wp_lreturn G hr dX10_score_40 (by first | exact ⟨rfl, by rw [ansY, if_pos (by omega)], Or.inl rfl⟩ | exact ⟨rfl, by rw [ansY, if_neg (by omega), if_pos (by omega)], Or.inl rfl⟩ | exact ⟨rfl, by rw [ansY_3 h_f h_f (by omega)], Or.inr ⟨_, rfl⟩⟩)
    · skip
      obtain ⟨f, e_f⟩ := Int.eq_ofNat_of_zero_le (show 0 ≤ v from (by omega))
      subst e_f
      refine wp_aload_n G 0 dX10_score_22 rfl ?_
      obtain ⟨aa, e_aa⟩ := Int.eq_ofNat_of_zero_le (show 0 ≤ a from (by omega))
      subst e_aa
      refine wp_iload_n G 1 dX10_score_23 rfl ?_
      obtain ⟨bb, e_bb⟩ := Int.eq_ofNat_of_zero_le (show 0 ≤ b from (by omega))
      subst e_bb
      refine wp_iload_n G 1 dX10_score_24 rfl ?_
      have h_f : f < fc := by omega
      have hX_f := hX f h_f
      have hXs_f : sl f ≤ 48 ∧ fltZ (tx f) (sl f) = -6 := ⟨hsl f (by omega), hX_f.2.1⟩
      refine wp_bipush G dX10_score_25 (by decide) ?_
      refine wp_iload_n G 2 dX10_score_27 rfl ?_
      refine wp_iload_n G 3 dX10_score_28 rfl ?_
      refine wp_iload G 4 dX10_score_29 rfl ?_
      refine wp_callV (mm := (0, 0)) (b := 64) (ci := 9) (as := [zI ((f : Nat) : Int), zI ((f : Nat) : Int), zI 10, zI m, zI ((aa : Nat) : Int), zI ((bb : Nat) : Int)]) (rest := []) G mX10_scoreOf lX10_288 iX10_scoreOf eX10_scoreOf ⟨_, rfl, rfl⟩ dX10_score_31 h64 rfl rfl (Nat.le_of_ble_eq_true rfl) (rmx_ok hR (by decide) (by decide) (by decide) (by decide)) (t_X10_scoreOf (nx := nx) (f := f) (g := f) (w := 10) (m := m) (a := aa) (b := bb) hQ hO hN hT hsl hX hfc h_f h_f (by omega) ri_m (by omega) (by omega)) (fun rr nx' l' hq => ?_)
      obtain ⟨Rz , rfl , enx , rfl⟩ := hq
      subst nx'
      show Wp K 5 (Mx K h (fun rr nx' l' => nx' = nx ∧ rr = some (zJ (ansY n q tx sl fc ((f : Nat) : Int) ((f : Nat) : Int) 10 m ((aa : Nat) : Int) ((bb : Nat) : Int))) ∧ (l' = [] ∨ ∃ R, l' = [(82, oA 0 4 R)])) (0, 0)) (0, 0) 34 [(0, zR 64), (1, zI ((f : Nat) : Int)), (2, zI m), (3, zI ((aa : Nat) : Int)), (4, zI ((bb : Nat) : Int))] [zJ (scZ (tlT q n (tx f) (sl f)) (tlT q n (tx f) (sl f)) (dueZ q n m) 10 ((aa : Nat) : Int) (bb + 1 - aa))] (nx, h, [(82, oA 0 4 Rz)])
      refine wp_goto G dX10_score_34 ?_
      exact wp_lreturn G hr dX10_score_40 (by first | exact ⟨rfl, by rw [ansY, if_pos (by omega)], Or.inl rfl⟩ | exact ⟨rfl, by rw [ansY, if_neg (by omega), if_pos (by omega)], Or.inl rfl⟩ | exact ⟨rfl, by rw [ansY_3 h_f h_f (by omega)], Or.inr ⟨_, rfl⟩⟩)
  · skip
    refine wp_ldc2 (z := -1000000000000000001) G kX10_179 dX10_score_8 ?_
    exact wp_lreturn G hr dX10_score_11 (by first | exact ⟨rfl, by rw [ansY, if_pos (by omega)], Or.inl rfl⟩ | exact ⟨rfl, by rw [ansY, if_neg (by omega), if_pos (by omega)], Or.inl rfl⟩ | exact ⟨rfl, by rw [ansY_3 h_f h_f (by omega)], Or.inr ⟨_, rfl⟩⟩)

set_option maxRecDepth 100000 in
set_option maxHeartbeats 4000000 in
theorem t_X10_mixed {nx : Nat} {h : Nat → Option PC} {n : Nat} {q : Nat → Nat → Int} {o : Nat → Nat} {fc : Nat} {hn : Nat} {ln : Nat} {ma : Int} {mb : Int} {st : Nat → Int} {sm : Nat → Int} {sl : Nat → Nat} {ri : Nat → Int} {tx : Nat → Nat → Int} {v : Int} {u : Int} {w : Int} {m : Int} {a : Int} {b : Int} (hQ : isM h n q o fc hn ln ma mb st) (hO : okQ n q o) (hN : okN st) (hT : isMt h sm sl ri) (hsl : ∀ f, f < 7 → sl f ≤ 48) (hX : okX sm sl tx fc) (hfc : fc ≤ 6) (ri_v : r32 v) (ri_u : r32 u) (ri_w : r32 w) (ri_m : r32 m) (ri_a : r32 a) (ri_b : r32 b) : Cx 4 (0, 0) yX10_mixed cX10_mixed 7 (some .long) [zR 64, zI v, zI u, zI w, zI m, zI a, zI b] nx h (fun rr nx' l' => nx' = nx ∧ rr = some (zJ (ansY n q tx sl fc v u w m a b)) ∧ (l' = [] ∨ ∃ R, l' = [(82, oA 0 4 R)])) := by
  refine cx_of pnX10_mixed (Nat.le_of_ble_eq_true rfl) ?_
  intro K G hr hnm hR
  obtain ⟨h64, h65, h66, h67, h68, h69, h70, h71, h72, h73⟩ := id hQ
  have hn40 := hO.1
  obtain ⟨hN0, hN1, hN2, hN3, hN4⟩ := id hN
  obtain ⟨h80, h81, h82⟩ := id hT
  have hsl6 := hsl 6 (by decide)
  show Wp K 7 (Mx K h (fun rr nx' l' => nx' = nx ∧ rr = some (zJ (ansY n q tx sl fc v u w m a b)) ∧ (l' = [] ∨ ∃ R, l' = [(82, oA 0 4 R)])) (0, 0)) (0, 0) 0 [(0, zR 64), (1, zI v), (2, zI u), (3, zI w), (4, zI m), (5, zI a), (6, zI b)] [] (nx, h, [])
  refine wp_aload_n G 0 dX10_mixed_0 rfl ?_
  refine wp_iload_n G 1 dX10_mixed_1 rfl ?_
  refine wp_cVE (b := 64) (ci := 9) (as := [zI v]) (rest := []) (hp2 := (nx, h, [])) G mX10_isForecast lX10_274 iX10_isForecast eX10_isForecast ⟨_, rfl, rfl⟩ dX10_mixed_2 h64 rfl rfl (Nat.le_of_ble_eq_true rfl) (rmx_ok hR (by decide) (by decide) (by decide) (by decide)) (t_X10_isForecast (nx := nx) (v := v) hQ hO hN ri_v hfc) rfl ?_
  refine wp_ifeq_bt G dX10_mixed_5 (fun kq1 => ?_) (fun kq1 => ?_)
  · skip
    refine wp_ldc2 (z := -1000000000000000001) G kX10_179 dX10_mixed_16 ?_
    exact wp_lreturn G hr dX10_mixed_19 (by first | exact ⟨rfl, by rw [ansY, if_pos (by omega)], Or.inl rfl⟩ | exact ⟨rfl, by rw [ansY, if_neg (by omega), if_pos (by omega)], Or.inl rfl⟩ | exact ⟨rfl, by rw [ansY_3 h_f h_g (by omega)], Or.inr ⟨_, rfl⟩⟩)
  · skip
    refine wp_aload_n G 0 dX10_mixed_8 rfl ?_
    refine wp_iload_n G 2 dX10_mixed_9 rfl ?_
    refine wp_cVE (b := 64) (ci := 9) (as := [zI u]) (rest := []) (hp2 := (nx, h, [])) G mX10_isForecast lX10_274 iX10_isForecast eX10_isForecast ⟨_, rfl, rfl⟩ dX10_mixed_10 h64 rfl rfl (Nat.le_of_ble_eq_true rfl) (rmx_ok hR (by decide) (by decide) (by decide) (by decide)) (t_X10_isForecast (nx := nx) (v := u) hQ hO hN (by omega) hfc) rfl ?_
    refine wp_ifne_bt G dX10_mixed_13 (fun kq2 => ?_) (fun kq2 => ?_)
    · skip
      refine wp_iload G 4 dX10_mixed_20 rfl ?_
      refine wp_iload G 5 dX10_mixed_22 rfl ?_
      refine wp_iload G 6 dX10_mixed_24 rfl ?_
      refine wp_cSE (as := [zI m, zI a, zI b]) (rest := []) (hp2 := (nx, h, [])) G mX10_areDays lX10_285 sX10_areDays dX10_mixed_26 rfl rfl (Nat.le_of_ble_eq_true rfl) (rmx_ok hR (by decide) (by decide) (by decide) (by decide)) (t_X10_areDays (nx := nx) (m := m) (v := a) (w := b) ri_m (by omega) (by omega)) rfl ?_
      refine wp_ifeq_bt G dX10_mixed_29 (fun kq3 => ?_) (fun kq3 => ?_)
      · skip
        refine wp_ldc2 (z := -1000000000000000002) G kX10_184 dX10_mixed_60 ?_
        exact wp_lreturn G hr dX10_mixed_63 (by first | exact ⟨rfl, by rw [ansY, if_pos (by omega)], Or.inl rfl⟩ | exact ⟨rfl, by rw [ansY, if_neg (by omega), if_pos (by omega)], Or.inl rfl⟩ | exact ⟨rfl, by rw [ansY_3 h_f h_g (by omega)], Or.inr ⟨_, rfl⟩⟩)
      · skip
        refine wp_iload_n G 3 dX10_mixed_32 rfl ?_
        refine wp_i2l G (by omega) dX10_mixed_33 ?_
        refine wp_lconst (z := 0) G dX10_mixed_34 (by decide) ?_
        refine wp_ldc2 (z := 10) G kX10_292 dX10_mixed_35 ?_
        refine wp_cSE (as := [zJ w, zJ 0, zJ 10]) (rest := []) (hp2 := (nx, h, [])) G mX10_in lX10_100 sX10_in dX10_mixed_38 rfl rfl (Nat.le_of_ble_eq_true rfl) (rmx_ok hR (by decide) (by decide) (by decide) (by decide)) (t_X10_in (nx := nx) (v := w) (lo := 0) (hi := 10) (by omega) (by omega) (by omega)) rfl ?_
        refine wp_ifeq_bt G dX10_mixed_41 (fun kq4 => ?_) (fun kq4 => ?_)
        · skip
          refine wp_ldc2 (z := -1000000000000000002) G kX10_184 dX10_mixed_60 ?_
          exact wp_lreturn G hr dX10_mixed_63 (by first | exact ⟨rfl, by rw [ansY, if_pos (by omega)], Or.inl rfl⟩ | exact ⟨rfl, by rw [ansY, if_neg (by omega), if_pos (by omega)], Or.inl rfl⟩ | exact ⟨rfl, by rw [ansY_3 h_f h_g (by omega)], Or.inr ⟨_, rfl⟩⟩)
        · skip
          obtain ⟨f, e_f⟩ := Int.eq_ofNat_of_zero_le (show 0 ≤ v from (by omega))
          subst e_f
          refine wp_aload_n G 0 dX10_mixed_44 rfl ?_
          obtain ⟨g, e_g⟩ := Int.eq_ofNat_of_zero_le (show 0 ≤ u from (by omega))
          subst e_g
          refine wp_iload_n G 1 dX10_mixed_45 rfl ?_
          obtain ⟨aa, e_aa⟩ := Int.eq_ofNat_of_zero_le (show 0 ≤ a from (by omega))
          subst e_aa
          refine wp_iload_n G 2 dX10_mixed_46 rfl ?_
          obtain ⟨bb, e_bb⟩ := Int.eq_ofNat_of_zero_le (show 0 ≤ b from (by omega))
          subst e_bb
          refine wp_iload_n G 3 dX10_mixed_47 rfl ?_
          have h_f : f < fc := by omega
          have hX_f := hX f h_f
          have hXs_f : sl f ≤ 48 ∧ fltZ (tx f) (sl f) = -6 := ⟨hsl f (by omega), hX_f.2.1⟩
          have h_g : g < fc := by omega
          have hX_g := hX g h_g
          have hXs_g : sl g ≤ 48 ∧ fltZ (tx g) (sl g) = -6 := ⟨hsl g (by omega), hX_g.2.1⟩
          refine wp_iload G 4 dX10_mixed_48 rfl ?_
          refine wp_iload G 5 dX10_mixed_50 rfl ?_
          refine wp_iload G 6 dX10_mixed_52 rfl ?_
          refine wp_callV (mm := (0, 0)) (b := 64) (ci := 9) (as := [zI ((f : Nat) : Int), zI ((g : Nat) : Int), zI w, zI m, zI ((aa : Nat) : Int), zI ((bb : Nat) : Int)]) (rest := []) G mX10_scoreOf lX10_288 iX10_scoreOf eX10_scoreOf ⟨_, rfl, rfl⟩ dX10_mixed_54 h64 rfl rfl (Nat.le_of_ble_eq_true rfl) (rmx_ok hR (by decide) (by decide) (by decide) (by decide)) (t_X10_scoreOf (nx := nx) (f := f) (g := g) (w := w) (m := m) (a := aa) (b := bb) hQ hO hN hT hsl hX hfc h_f h_g (by omega) ri_m (by omega) (by omega)) (fun rr nx' l' hq => ?_)
          obtain ⟨Rz , rfl , enx , rfl⟩ := hq
          subst nx'
          show Wp K 7 (Mx K h (fun rr nx' l' => nx' = nx ∧ rr = some (zJ (ansY n q tx sl fc ((f : Nat) : Int) ((g : Nat) : Int) w m ((aa : Nat) : Int) ((bb : Nat) : Int))) ∧ (l' = [] ∨ ∃ R, l' = [(82, oA 0 4 R)])) (0, 0)) (0, 0) 57 [(0, zR 64), (1, zI ((f : Nat) : Int)), (2, zI ((g : Nat) : Int)), (3, zI w), (4, zI m), (5, zI ((aa : Nat) : Int)), (6, zI ((bb : Nat) : Int))] [zJ (scZ (tlT q n (tx f) (sl f)) (tlT q n (tx g) (sl g)) (dueZ q n m) w ((aa : Nat) : Int) (bb + 1 - aa))] (nx, h, [(82, oA 0 4 Rz)])
          refine wp_goto G dX10_mixed_57 ?_
          exact wp_lreturn G hr dX10_mixed_63 (by first | exact ⟨rfl, by rw [ansY, if_pos (by omega)], Or.inl rfl⟩ | exact ⟨rfl, by rw [ansY, if_neg (by omega), if_pos (by omega)], Or.inl rfl⟩ | exact ⟨rfl, by rw [ansY_3 h_f h_g (by omega)], Or.inr ⟨_, rfl⟩⟩)
    · skip
      refine wp_ldc2 (z := -1000000000000000001) G kX10_179 dX10_mixed_16 ?_
      exact wp_lreturn G hr dX10_mixed_19 (by first | exact ⟨rfl, by rw [ansY, if_pos (by omega)], Or.inl rfl⟩ | exact ⟨rfl, by rw [ansY, if_neg (by omega), if_pos (by omega)], Or.inl rfl⟩ | exact ⟨rfl, by rw [ansY_3 h_f h_g (by omega)], Or.inr ⟨_, rfl⟩⟩)

set_option maxRecDepth 100000 in
set_option maxHeartbeats 4000000 in
theorem t_X10_best {nx : Nat} {h : Nat → Option PC} {n : Nat} {q : Nat → Nat → Int} {o : Nat → Nat} {fc : Nat} {hn : Nat} {ln : Nat} {ma : Int} {mb : Int} {st : Nat → Int} {sm : Nat → Int} {sl : Nat → Nat} {ri : Nat → Int} {tx : Nat → Nat → Int} {v : Int} {u : Int} {m : Int} {a : Int} {b : Int} (hQ : isM h n q o fc hn ln ma mb st) (hO : okQ n q o) (hN : okN st) (hT : isMt h sm sl ri) (hsl : ∀ f, f < 7 → sl f ≤ 48) (hX : okX sm sl tx fc) (hfc : fc ≤ 6) (ri_v : r32 v) (ri_u : r32 u) (ri_m : r32 m) (ri_a : r32 a) (ri_b : r32 b) : Cx 4 (0, 0) yX10_best cX10_best 12 (some .int) [zR 64, zI v, zI u, zI m, zI a, zI b] nx h (fun rr nx' l' => nx' = nx ∧ rr = some (zI (ansZ n q tx sl fc v u m a b)) ∧ (l' = [] ∨ ∃ R, l' = [(82, oA 0 4 R)])) := by
  refine cx_of pnX10_best (Nat.le_of_ble_eq_true rfl) ?_
  intro K G hr hnm hR
  obtain ⟨h64, h65, h66, h67, h68, h69, h70, h71, h72, h73⟩ := id hQ
  have hn40 := hO.1
  obtain ⟨hN0, hN1, hN2, hN3, hN4⟩ := id hN
  obtain ⟨h80, h81, h82⟩ := id hT
  have hsl6 := hsl 6 (by decide)
  show Wp K 12 (Mx K h (fun rr nx' l' => nx' = nx ∧ rr = some (zI (ansZ n q tx sl fc v u m a b)) ∧ (l' = [] ∨ ∃ R, l' = [(82, oA 0 4 R)])) (0, 0)) (0, 0) 0 [(0, zR 64), (1, zI v), (2, zI u), (3, zI m), (4, zI a), (5, zI b)] [] (nx, h, [])
  refine wp_aload_n G 0 dX10_best_0 rfl ?_
  refine wp_iload_n G 1 dX10_best_1 rfl ?_
  refine wp_cVE (b := 64) (ci := 9) (as := [zI v]) (rest := []) (hp2 := (nx, h, [])) G mX10_isForecast lX10_274 iX10_isForecast eX10_isForecast ⟨_, rfl, rfl⟩ dX10_best_2 h64 rfl rfl (Nat.le_of_ble_eq_true rfl) (rmx_ok hR (by decide) (by decide) (by decide) (by decide)) (t_X10_isForecast (nx := nx) (v := v) hQ hO hN ri_v hfc) rfl ?_
  refine wp_ifeq_bt G dX10_best_5 (fun kq1 => ?_) (fun kq1 => ?_)
  · skip
    refine wp_iconst G dX10_best_16 ?_
    exact wp_ireturn G hr dX10_best_17 (by exact ⟨rfl, by rw [ansZ, if_pos (by omega)], Or.inl rfl⟩)
  · skip
    refine wp_aload_n G 0 dX10_best_8 rfl ?_
    refine wp_iload_n G 2 dX10_best_9 rfl ?_
    refine wp_cVE (b := 64) (ci := 9) (as := [zI u]) (rest := []) (hp2 := (nx, h, [])) G mX10_isForecast lX10_274 iX10_isForecast eX10_isForecast ⟨_, rfl, rfl⟩ dX10_best_10 h64 rfl rfl (Nat.le_of_ble_eq_true rfl) (rmx_ok hR (by decide) (by decide) (by decide) (by decide)) (t_X10_isForecast (nx := nx) (v := u) hQ hO hN (by omega) hfc) rfl ?_
    refine wp_ifne_bt G dX10_best_13 (fun kq2 => ?_) (fun kq2 => ?_)
    · skip
      refine wp_iload_n G 3 dX10_best_18 rfl ?_
      refine wp_iload G 4 dX10_best_19 rfl ?_
      refine wp_iload G 5 dX10_best_21 rfl ?_
      refine wp_cSE (as := [zI m, zI a, zI b]) (rest := []) (hp2 := (nx, h, [])) G mX10_areDays lX10_285 sX10_areDays dX10_best_23 rfl rfl (Nat.le_of_ble_eq_true rfl) (rmx_ok hR (by decide) (by decide) (by decide) (by decide)) (t_X10_areDays (nx := nx) (m := m) (v := a) (w := b) ri_m (by omega) (by omega)) rfl ?_
      refine wp_ifne_bt G dX10_best_26 (fun kq3 => ?_) (fun kq3 => ?_)
      · skip
        obtain ⟨f, e_f⟩ := Int.eq_ofNat_of_zero_le (show 0 ≤ v from (by omega))
        subst e_f
        refine wp_iconst G dX10_best_32 ?_
        obtain ⟨g, e_g⟩ := Int.eq_ofNat_of_zero_le (show 0 ≤ u from (by omega))
        subst e_g
        refine wp_istore (lv' := [(6, zI 0), (0, zR 64), (1, zI ((f : Nat) : Int)), (2, zI ((g : Nat) : Int)), (3, zI m), (4, zI a), (5, zI b)]) G dX10_best_33 (by decide) rfl ?_
        obtain ⟨aa, e_aa⟩ := Int.eq_ofNat_of_zero_le (show 0 ≤ a from (by omega))
        subst e_aa
        refine wp_aload_n G 1 dX10_best_35 rfl ?_
        obtain ⟨bb, e_bb⟩ := Int.eq_ofNat_of_zero_le (show 0 ≤ b from (by omega))
        subst e_bb
        refine wp_iload_n G 2 dX10_best_36 rfl ?_
        have h_f : f < fc := by omega
        have hX_f := hX f h_f
        have hXs_f : sl f ≤ 48 ∧ fltZ (tx f) (sl f) = -6 := ⟨hsl f (by omega), hX_f.2.1⟩
        have h_g : g < fc := by omega
        have hX_g := hX g h_g
        have hXs_g : sl g ≤ 48 ∧ fltZ (tx g) (sl g) = -6 := ⟨hsl g (by omega), hX_g.2.1⟩
        have hsc : ∀ k, k ≤ 10 → 0 ≤ (fun k => scZ (tlT q n (tx f) (sl f)) (tlT q n (tx g) (sl g)) (dueZ q n m) ((k : Nat) : Int) ((aa : Nat) : Int) (bb + 1 - aa)) k ∧ (fun k => scZ (tlT q n (tx f) (sl f)) (tlT q n (tx g) (sl g)) (dueZ q n m) ((k : Nat) : Int) ((aa : Nat) : Int) (bb + 1 - aa)) k ≤ 1000000000000 := fun k hk => scf_b hXs_f hXs_g (by omega) (by omega)
        refine wp_iload_n G 3 dX10_best_37 rfl ?_
        refine wp_iconst G dX10_best_38 ?_
        refine wp_iload_n G 4 dX10_best_39 rfl ?_
        refine wp_iload G 5 dX10_best_40 rfl ?_
        refine wp_iload G 6 dX10_best_42 rfl ?_
        refine wp_callV (mm := (0, 0)) (b := 64) (ci := 9) (as := [zI ((f : Nat) : Int), zI ((g : Nat) : Int), zI 0, zI m, zI ((aa : Nat) : Int), zI ((bb : Nat) : Int)]) (rest := []) G mX10_scoreOf lX10_288 iX10_scoreOf eX10_scoreOf ⟨_, rfl, rfl⟩ dX10_best_44 h64 rfl rfl (Nat.le_of_ble_eq_true rfl) (rmx_ok hR (by decide) (by decide) (by decide) (by decide)) (t_X10_scoreOf (nx := nx) (f := f) (g := g) (w := 0) (m := m) (a := aa) (b := bb) hQ hO hN hT hsl hX hfc h_f h_g (by omega) ri_m (by omega) (by omega)) (fun rr nx' l' hq => ?_)
        obtain ⟨Ra , rfl , enx , rfl⟩ := hq
        subst nx'
        show Wp K 12 (Mx K h (fun rr nx' l' => nx' = nx ∧ rr = some (zI (ansZ n q tx sl fc ((f : Nat) : Int) ((g : Nat) : Int) m ((aa : Nat) : Int) ((bb : Nat) : Int))) ∧ (l' = [] ∨ ∃ R, l' = [(82, oA 0 4 R)])) (0, 0)) (0, 0) 47 [(6, zI 0), (0, zR 64), (1, zI ((f : Nat) : Int)), (2, zI ((g : Nat) : Int)), (3, zI m), (4, zI ((aa : Nat) : Int)), (5, zI ((bb : Nat) : Int))] [zJ (scZ (tlT q n (tx f) (sl f)) (tlT q n (tx g) (sl g)) (dueZ q n m) 0 ((aa : Nat) : Int) (bb + 1 - aa))] (nx, h, [(82, oA 0 4 Ra)])
        refine wp_lstore (lv' := [(7, zJ (scZ (tlT q n (tx f) (sl f)) (tlT q n (tx g) (sl g)) (dueZ q n m) 0 ((aa : Nat) : Int) (bb + 1 - aa))), (6, zI 0), (0, zR 64), (1, zI ((f : Nat) : Int)), (2, zI ((g : Nat) : Int)), (3, zI m), (4, zI ((aa : Nat) : Int)), (5, zI ((bb : Nat) : Int))]) G dX10_best_47 (by decide) rfl ?_
        refine wp_iconst G dX10_best_49 ?_
        refine wp_istore (lv' := [(9, zI 1), (7, zJ (scZ (tlT q n (tx f) (sl f)) (tlT q n (tx g) (sl g)) (dueZ q n m) 0 ((aa : Nat) : Int) (bb + 1 - aa))), (6, zI 0), (0, zR 64), (1, zI ((f : Nat) : Int)), (2, zI ((g : Nat) : Int)), (3, zI m), (4, zI ((aa : Nat) : Int)), (5, zI ((bb : Nat) : Int))]) G dX10_best_50 (by decide) rfl ?_
        refine wp_lv [3, 4, 5, 6, 7, 8, 2, 1, 0] rfl ?_
        suffices lp52 : ∀ (fu : Nat) (k : Nat) (R : Nat → Int) (v6 : Int) (v7 : Int) (v9 : Int), 10 - k < fu → (v6 = ((lmF (fun k => scZ (tlT q n (tx f) (sl f)) (tlT q n (tx g) (sl g)) (dueZ q n m) ((k : Nat) : Int) ((aa : Nat) : Int) (bb + 1 - aa)) k : Nat) : Int)) → (v7 = ((fun k => scZ (tlT q n (tx f) (sl f)) (tlT q n (tx g) (sl g)) (dueZ q n m) ((k : Nat) : Int) ((aa : Nat) : Int) (bb + 1 - aa)) (lmF (fun k => scZ (tlT q n (tx f) (sl f)) (tlT q n (tx g) (sl g)) (dueZ q n m) ((k : Nat) : Int) ((aa : Nat) : Int) (bb + 1 - aa)) k))) → (v9 = ((k + 1 : Nat) : Int)) → (k ≤ 10) → Wp K 12 (Mx K h (fun rr nx' l' => nx' = nx ∧ rr = some (zI (ansZ n q tx sl fc ((f : Nat) : Int) ((g : Nat) : Int) m ((aa : Nat) : Int) ((bb : Nat) : Int))) ∧ (l' = [] ∨ ∃ R, l' = [(82, oA 0 4 R)])) (0, 0)) (0, 0) 52 [(0, zR 64), (1, zI ((f : Nat) : Int)), (2, zI ((g : Nat) : Int)), (3, zI m), (4, zI ((aa : Nat) : Int)), (5, zI ((bb : Nat) : Int)), (6, zI v6), (7, zJ v7), (9, zI v9)] [] (nx, h, [(82, oA 0 4 R)]) from lp52 _ 0 Ra 0 (scZ (tlT q n (tx f) (sl f)) (tlT q n (tx g) (sl g)) (dueZ q n m) 0 ((aa : Nat) : Int) (bb + 1 - aa)) 1 (Nat.lt_succ_self _) (by rfl) (by rfl) (by omega) (by omega)
        intro fu
        induction fu with
        | zero => intro k R v6 v7 v9 hm; exact absurd hm (Nat.not_lt_zero _)
        | succ fu ih52 =>
          intro k R v6 v7 v9 hm52 e6 e7 e9 hi0
          subst e6
          subst e7
          subst e9
          have hlm := lmF_le (fun k => scZ (tlT q n (tx f) (sl f)) (tlT q n (tx g) (sl g)) (dueZ q n m) ((k : Nat) : Int) ((aa : Nat) : Int) (bb + 1 - aa)) k
          have hs1 := hsc (lmF (fun k => scZ (tlT q n (tx f) (sl f)) (tlT q n (tx g) (sl g)) (dueZ q n m) ((k : Nat) : Int) ((aa : Nat) : Int) (bb + 1 - aa)) k) (by omega)
          refine wp_iload G 8 dX10_best_52 rfl ?_
          refine wp_bipush G dX10_best_54 (by decide) ?_
          refine wp_icmp_gt G dX10_best_56 (by omega) (by omega) (fun kq4 => ?_) (fun kq4 => ?_)
          · skip
            refine wp_iload G 6 dX10_best_96 rfl ?_
            exact wp_ireturn G hr dX10_best_98 (by exact ⟨rfl, by rw [ansZ_3 h_f h_g (by omega), show k = 10 by omega], Or.inr ⟨_, rfl⟩⟩)
          · skip
            have hs2 := hsc (k + 1) (by omega)
            refine wp_aload_n G 0 dX10_best_59 rfl ?_
            refine wp_iload_n G 1 dX10_best_60 rfl ?_
            refine wp_iload_n G 2 dX10_best_61 rfl ?_
            refine wp_iload G 8 dX10_best_62 rfl ?_
            refine wp_iload_n G 3 dX10_best_64 rfl ?_
            refine wp_iload G 4 dX10_best_65 rfl ?_
            refine wp_iload G 5 dX10_best_67 rfl ?_
            refine wp_callV (mm := (0, 0)) (b := 64) (ci := 9) (as := [zI ((f : Nat) : Int), zI ((g : Nat) : Int), zI ((k + 1 : Nat) : Int), zI m, zI ((aa : Nat) : Int), zI ((bb : Nat) : Int)]) (rest := []) G mX10_scoreOf lX10_288 iX10_scoreOf eX10_scoreOf ⟨_, rfl, rfl⟩ dX10_best_69 h64 rfl rfl (Nat.le_of_ble_eq_true rfl) (rmx_ok hR (by decide) (by decide) (by decide) (by decide)) (t_X10_scoreOf (nx := nx) (f := f) (g := g) (w := ((k + 1 : Nat) : Int)) (m := m) (a := aa) (b := bb) hQ hO hN ⟨h80, h81, rfl⟩ hsl hX hfc h_f h_g (by omega) ri_m (by omega) (by omega)) (fun rr nx' l' hq => ?_)
            obtain ⟨Rb , rfl , enx , rfl⟩ := hq
            subst nx'
            show Wp K 12 (Mx K h (fun rr nx' l' => nx' = nx ∧ rr = some (zI (ansZ n q tx sl fc ((f : Nat) : Int) ((g : Nat) : Int) m ((aa : Nat) : Int) ((bb : Nat) : Int))) ∧ (l' = [] ∨ ∃ R, l' = [(82, oA 0 4 R)])) (0, 0)) (0, 0) 72 [(0, zR 64), (1, zI ((f : Nat) : Int)), (2, zI ((g : Nat) : Int)), (3, zI m), (4, zI ((aa : Nat) : Int)), (5, zI ((bb : Nat) : Int)), (6, zI ((lmF (fun k => scZ (tlT q n (tx f) (sl f)) (tlT q n (tx g) (sl g)) (dueZ q n m) ((k : Nat) : Int) ((aa : Nat) : Int) (bb + 1 - aa)) k : Nat) : Int)), (7, zJ ((fun k => scZ (tlT q n (tx f) (sl f)) (tlT q n (tx g) (sl g)) (dueZ q n m) ((k : Nat) : Int) ((aa : Nat) : Int) (bb + 1 - aa)) (lmF (fun k => scZ (tlT q n (tx f) (sl f)) (tlT q n (tx g) (sl g)) (dueZ q n m) ((k : Nat) : Int) ((aa : Nat) : Int) (bb + 1 - aa)) k))), (9, zI ((k + 1 : Nat) : Int))] [zJ ((fun k => scZ (tlT q n (tx f) (sl f)) (tlT q n (tx g) (sl g)) (dueZ q n m) ((k : Nat) : Int) ((aa : Nat) : Int) (bb + 1 - aa)) (k + 1))] (nx, h, [(82, oA 0 4 Rb)])
            refine wp_lstore (lv' := [(10, zJ ((fun k => scZ (tlT q n (tx f) (sl f)) (tlT q n (tx g) (sl g)) (dueZ q n m) ((k : Nat) : Int) ((aa : Nat) : Int) (bb + 1 - aa)) (k + 1))), (0, zR 64), (1, zI ((f : Nat) : Int)), (2, zI ((g : Nat) : Int)), (3, zI m), (4, zI ((aa : Nat) : Int)), (5, zI ((bb : Nat) : Int)), (6, zI ((lmF (fun k => scZ (tlT q n (tx f) (sl f)) (tlT q n (tx g) (sl g)) (dueZ q n m) ((k : Nat) : Int) ((aa : Nat) : Int) (bb + 1 - aa)) k : Nat) : Int)), (7, zJ ((fun k => scZ (tlT q n (tx f) (sl f)) (tlT q n (tx g) (sl g)) (dueZ q n m) ((k : Nat) : Int) ((aa : Nat) : Int) (bb + 1 - aa)) (lmF (fun k => scZ (tlT q n (tx f) (sl f)) (tlT q n (tx g) (sl g)) (dueZ q n m) ((k : Nat) : Int) ((aa : Nat) : Int) (bb + 1 - aa)) k))), (9, zI ((k + 1 : Nat) : Int))]) G dX10_best_72 (by decide) rfl ?_
            refine wp_lload G 0 dX10_best_74 rfl ?_
            refine wp_lload G 8 dX10_best_76 rfl ?_
            refine wp_lcmp G (by omega) (by omega) dX10_best_78 ?_
            refine wp_if_ge G dX10_best_79 (cmpZ_r _ _) (fun kq5 => ?_) (fun kq5 => ?_)
            · have kq5 : ((fun k => scZ (tlT q n (tx f) (sl f)) (tlT q n (tx g) (sl g)) (dueZ q n m) ((k : Nat) : Int) ((aa : Nat) : Int) (bb + 1 - aa)) (lmF (fun k => scZ (tlT q n (tx f) (sl f)) (tlT q n (tx g) (sl g)) (dueZ q n m) ((k : Nat) : Int) ((aa : Nat) : Int) (bb + 1 - aa)) k)) ≤ ((fun k => scZ (tlT q n (tx f) (sl f)) (tlT q n (tx g) (sl g)) (dueZ q n m) ((k : Nat) : Int) ((aa : Nat) : Int) (bb + 1 - aa)) (k + 1)) := Int.not_lt.mp (fun z => absurd (cmpZ_lt.mpr z) (Int.not_lt.mpr kq5))
              refine wp_iinc (lv' := [(9, zI (((k + 1 : Nat) : Int) + 1)), (10, zJ ((fun k => scZ (tlT q n (tx f) (sl f)) (tlT q n (tx g) (sl g)) (dueZ q n m) ((k : Nat) : Int) ((aa : Nat) : Int) (bb + 1 - aa)) (k + 1))), (0, zR 64), (1, zI ((f : Nat) : Int)), (2, zI ((g : Nat) : Int)), (3, zI m), (4, zI ((aa : Nat) : Int)), (5, zI ((bb : Nat) : Int)), (6, zI ((lmF (fun k => scZ (tlT q n (tx f) (sl f)) (tlT q n (tx g) (sl g)) (dueZ q n m) ((k : Nat) : Int) ((aa : Nat) : Int) (bb + 1 - aa)) k : Nat) : Int)), (7, zJ ((fun k => scZ (tlT q n (tx f) (sl f)) (tlT q n (tx g) (sl g)) (dueZ q n m) ((k : Nat) : Int) ((aa : Nat) : Int) (bb + 1 - aa)) (lmF (fun k => scZ (tlT q n (tx f) (sl f)) (tlT q n (tx g) (sl g)) (dueZ q n m) ((k : Nat) : Int) ((aa : Nat) : Int) (bb + 1 - aa)) k)))]) G 9 dX10_best_90 rfl (by decide) rfl ?_
              refine wp_goto G dX10_best_93 ?_
              refine wp_lv [2, 3, 4, 5, 6, 7, 8, 9, 0] rfl ?_
              exact ih52 (k + 1) Rb ((lmF (fun k => scZ (tlT q n (tx f) (sl f)) (tlT q n (tx g) (sl g)) (dueZ q n m) ((k : Nat) : Int) ((aa : Nat) : Int) (bb + 1 - aa)) k : Nat) : Int) ((fun k => scZ (tlT q n (tx f) (sl f)) (tlT q n (tx g) (sl g)) (dueZ q n m) ((k : Nat) : Int) ((aa : Nat) : Int) (bb + 1 - aa)) (lmF (fun k => scZ (tlT q n (tx f) (sl f)) (tlT q n (tx g) (sl g)) (dueZ q n m) ((k : Nat) : Int) ((aa : Nat) : Int) (bb + 1 - aa)) k)) (((k + 1 : Nat) : Int) + 1) (by omega) (by first | (rw [lmF, if_pos (by assumption)]; done) | (rw [lmF, if_neg (Int.not_lt.mpr (by assumption))]; done)) (by first | (rw [lmF, if_pos (by assumption)]; done) | (rw [lmF, if_neg (Int.not_lt.mpr (by assumption))]; done)) (by omega) (by omega)
            · have kq5 : ((fun k => scZ (tlT q n (tx f) (sl f)) (tlT q n (tx g) (sl g)) (dueZ q n m) ((k : Nat) : Int) ((aa : Nat) : Int) (bb + 1 - aa)) (k + 1)) < ((fun k => scZ (tlT q n (tx f) (sl f)) (tlT q n (tx g) (sl g)) (dueZ q n m) ((k : Nat) : Int) ((aa : Nat) : Int) (bb + 1 - aa)) (lmF (fun k => scZ (tlT q n (tx f) (sl f)) (tlT q n (tx g) (sl g)) (dueZ q n m) ((k : Nat) : Int) ((aa : Nat) : Int) (bb + 1 - aa)) k)) := cmpZ_lt.mp kq5
              refine wp_lload G 0 dX10_best_82 rfl ?_
              refine wp_lstore (lv' := [(7, zJ ((fun k => scZ (tlT q n (tx f) (sl f)) (tlT q n (tx g) (sl g)) (dueZ q n m) ((k : Nat) : Int) ((aa : Nat) : Int) (bb + 1 - aa)) (k + 1))), (10, zJ ((fun k => scZ (tlT q n (tx f) (sl f)) (tlT q n (tx g) (sl g)) (dueZ q n m) ((k : Nat) : Int) ((aa : Nat) : Int) (bb + 1 - aa)) (k + 1))), (0, zR 64), (1, zI ((f : Nat) : Int)), (2, zI ((g : Nat) : Int)), (3, zI m), (4, zI ((aa : Nat) : Int)), (5, zI ((bb : Nat) : Int)), (6, zI ((lmF (fun k => scZ (tlT q n (tx f) (sl f)) (tlT q n (tx g) (sl g)) (dueZ q n m) ((k : Nat) : Int) ((aa : Nat) : Int) (bb + 1 - aa)) k : Nat) : Int)), (9, zI ((k + 1 : Nat) : Int))]) G dX10_best_84 (by decide) rfl ?_
              refine wp_iload G 9 dX10_best_86 rfl ?_
              refine wp_istore (lv' := [(6, zI ((k + 1 : Nat) : Int)), (7, zJ ((fun k => scZ (tlT q n (tx f) (sl f)) (tlT q n (tx g) (sl g)) (dueZ q n m) ((k : Nat) : Int) ((aa : Nat) : Int) (bb + 1 - aa)) (k + 1))), (10, zJ ((fun k => scZ (tlT q n (tx f) (sl f)) (tlT q n (tx g) (sl g)) (dueZ q n m) ((k : Nat) : Int) ((aa : Nat) : Int) (bb + 1 - aa)) (k + 1))), (0, zR 64), (1, zI ((f : Nat) : Int)), (2, zI ((g : Nat) : Int)), (3, zI m), (4, zI ((aa : Nat) : Int)), (5, zI ((bb : Nat) : Int)), (9, zI ((k + 1 : Nat) : Int))]) G dX10_best_88 (by decide) rfl ?_
              refine wp_iinc (lv' := [(9, zI (((k + 1 : Nat) : Int) + 1)), (6, zI ((k + 1 : Nat) : Int)), (7, zJ ((fun k => scZ (tlT q n (tx f) (sl f)) (tlT q n (tx g) (sl g)) (dueZ q n m) ((k : Nat) : Int) ((aa : Nat) : Int) (bb + 1 - aa)) (k + 1))), (10, zJ ((fun k => scZ (tlT q n (tx f) (sl f)) (tlT q n (tx g) (sl g)) (dueZ q n m) ((k : Nat) : Int) ((aa : Nat) : Int) (bb + 1 - aa)) (k + 1))), (0, zR 64), (1, zI ((f : Nat) : Int)), (2, zI ((g : Nat) : Int)), (3, zI m), (4, zI ((aa : Nat) : Int)), (5, zI ((bb : Nat) : Int))]) G 9 dX10_best_90 rfl (by decide) rfl ?_
              refine wp_goto G dX10_best_93 ?_
              refine wp_lv [4, 5, 6, 7, 8, 9, 1, 2, 0] rfl ?_
              exact ih52 (k + 1) Rb ((k + 1 : Nat) : Int) ((fun k => scZ (tlT q n (tx f) (sl f)) (tlT q n (tx g) (sl g)) (dueZ q n m) ((k : Nat) : Int) ((aa : Nat) : Int) (bb + 1 - aa)) (k + 1)) (((k + 1 : Nat) : Int) + 1) (by omega) (by first | (rw [lmF, if_pos (by assumption)]; done) | (rw [lmF, if_neg (Int.not_lt.mpr (by assumption))]; done)) (by first | (rw [lmF, if_pos (by assumption)]; done) | (rw [lmF, if_neg (Int.not_lt.mpr (by assumption))]; done)) (by omega) (by omega)
      · skip
        refine wp_bipush G dX10_best_29 (by decide) ?_
        exact wp_ireturn G hr dX10_best_31 (by exact ⟨rfl, by rw [ansZ, if_neg (by omega), if_pos (by omega)], Or.inl rfl⟩)
    · skip
      refine wp_iconst G dX10_best_16 ?_
      exact wp_ireturn G hr dX10_best_17 (by exact ⟨rfl, by rw [ansZ, if_pos (by omega)], Or.inl rfl⟩)

