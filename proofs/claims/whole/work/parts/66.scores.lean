def fcR (fc : Nat) : Nat → Option Nat := fun k => if k < fc then some (93 + 5 * k) else none
def isFt (h : Nat → Option PC) (k : Nat) (tx : Nat → Nat → Int) (sl : Nat → Nat) : Prop := isF h (93 + 5 * k) (tE (tx k) (sl k) / 4) (rV (tx k) (sl k)) (rA (tx k) (sl k) 0) (rA (tx k) (sl k) 1) (rA (tx k) (sl k) 2) (rA (tx k) (sl k) 3)
noncomputable def ansQ (n : Nat) (q : Nat → Nat → Int) (tx : Nat → Nat → Int) (sl : Nat → Nat) (fc : Nat) (v d : Int) : Int := if ¬ (0 ≤ v ∧ v < ((fc : Nat) : Int)) then -1 else if ¬ (0 ≤ d ∧ d ≤ 3999) then -2 else tlT q n (tx v.toNat) (sl v.toNat) d
noncomputable def ansY (n : Nat) (q : Nat → Nat → Int) (tx : Nat → Nat → Int) (sl : Nat → Nat) (fc : Nat) (v u w m a b : Int) : Int := if ¬ ((0 ≤ v ∧ v < ((fc : Nat) : Int)) ∧ (0 ≤ u ∧ u < ((fc : Nat) : Int))) then -1000000000000000001 else if ¬ ((0 ≤ w ∧ w ≤ 10) ∧ (0 ≤ m ∧ m ≤ 90) ∧ (0 ≤ a ∧ a ≤ 3999) ∧ (0 ≤ b ∧ b ≤ 3999) ∧ a ≤ b) then -1000000000000000002 else scZ (tlT q n (tx v.toNat) (sl v.toNat)) (tlT q n (tx u.toNat) (sl u.toNat)) (dueZ q n m) w a (b + 1 - a).toNat
noncomputable def ansZ (n : Nat) (q : Nat → Nat → Int) (tx : Nat → Nat → Int) (sl : Nat → Nat) (fc : Nat) (v u m a b : Int) : Int := if ¬ ((0 ≤ v ∧ v < ((fc : Nat) : Int)) ∧ (0 ≤ u ∧ u < ((fc : Nat) : Int))) then -1 else if ¬ ((0 ≤ m ∧ m ≤ 90) ∧ (0 ≤ a ∧ a ≤ 3999) ∧ (0 ≤ b ∧ b ≤ 3999) ∧ a ≤ b) then -2 else ((lmF (fun k => scZ (tlT q n (tx v.toNat) (sl v.toNat)) (tlT q n (tx u.toNat) (sl u.toNat)) (dueZ q n m) ((k : Nat) : Int) a (b + 1 - a).toNat) 10 : Nat) : Int)
theorem ansY_3 {n : Nat} {q tx : Nat → Nat → Int} {sl : Nat → Nat} {fc f g a b : Nat} {w m : Int} (hf : f < fc) (hg : g < fc) (h : (0 ≤ w ∧ w ≤ 10) ∧ (0 ≤ m ∧ m ≤ 90) ∧ a ≤ b ∧ b ≤ 3999) : ansY n q tx sl fc ((f : Nat) : Int) ((g : Nat) : Int) w m ((a : Nat) : Int) ((b : Nat) : Int) = scZ (tlT q n (tx f) (sl f)) (tlT q n (tx g) (sl g)) (dueZ q n m) w ((a : Nat) : Int) (b + 1 - a) := by
  unfold ansY
  rw [if_neg (by omega), if_neg (by omega), Int.toNat_natCast, Int.toNat_natCast, show (((b : Nat) : Int) + 1 - ((a : Nat) : Int)).toNat = b + 1 - a by omega]
theorem ansZ_3 {n : Nat} {q tx : Nat → Nat → Int} {sl : Nat → Nat} {fc f g a b : Nat} {m : Int} (hf : f < fc) (hg : g < fc) (h : (0 ≤ m ∧ m ≤ 90) ∧ a ≤ b ∧ b ≤ 3999) : ansZ n q tx sl fc ((f : Nat) : Int) ((g : Nat) : Int) m ((a : Nat) : Int) ((b : Nat) : Int) = ((lmF (fun k => scZ (tlT q n (tx f) (sl f)) (tlT q n (tx g) (sl g)) (dueZ q n m) ((k : Nat) : Int) ((a : Nat) : Int) (b + 1 - a)) 10 : Nat) : Int) := by
  unfold ansZ
  rw [if_neg (by omega), if_neg (by omega), Int.toNat_natCast, Int.toNat_natCast, show (((b : Nat) : Int) + 1 - ((a : Nat) : Int)).toNat = b + 1 - a by omega]
theorem lmF_congr {f g : Nat → Int} : ∀ k, (∀ j, j ≤ k → f j = g j) → lmF f k = lmF g k
  | 0, _ => rfl
  | k + 1, h => by
    have ih := lmF_congr k (fun j hj => h j (by omega))
    have h1 := lmF_le f k
    rw [lmF, lmF, h (k + 1) (Nat.le_refl _), h (lmF f k) (by omega), ih]
theorem scf_b {n : Nat} {q tx : Nat → Nat → Int} {sl : Nat → Nat} {f g a b : Nat} {w m : Int} (h1 : sl f ≤ 48 ∧ fltZ (tx f) (sl f) = -6) (h2 : sl g ≤ 48 ∧ fltZ (tx g) (sl g) = -6) (hw : 0 ≤ w ∧ w ≤ 10) (hb : b ≤ 3999) : 0 ≤ scZ (tlT q n (tx f) (sl f)) (tlT q n (tx g) (sl g)) (dueZ q n m) w ((a : Nat) : Int) (b + 1 - a) ∧ scZ (tlT q n (tx f) (sl f)) (tlT q n (tx g) (sl g)) (dueZ q n m) w ((a : Nat) : Int) (b + 1 - a) ≤ 1000000000000 :=
  sum1_b _ _ _ w _ (fun d => tlT_b h1.1 h1.2 d) (fun d => tlT_b h2.1 h2.2 d) (fun d => due_c q n m d) hw _ (by omega)

set_option maxRecDepth 100000 in
set_option maxHeartbeats 4000000 in
theorem t_X9_forecastOfY {nx : Nat} {h : Nat → Option PC} {fc : Nat} {f : Nat} (h0 : h 0 = some (oO 8 [zR 1, zR 2, zR 11, zR 34, zR 36, zR 42, zR 44, zI ((fc : Nat) : Int), zR 45, zR 48])) (h44 : h 44 = some (oP 5 6 (fcR fc))) (hfc : fc ≤ 6) (hf : f < fc) : Cx 1 (0, 0) yX9_forecastOf cX9_forecastOf 2 (some (.object "QuakeLists$Forecast")) [zR 0, zI ((f : Nat) : Int)] nx h (Rt (zR (93 + 5 * f)) nx []) := by
  refine cx_of pnX9_forecastOf (Nat.le_of_ble_eq_true rfl) ?_
  intro K G hr hnm hR
  show Wp K 2 (Mx K h (Rt (zR (93 + 5 * f)) nx []) (0, 0)) (0, 0) 0 [(0, zR 0), (1, zI ((f : Nat) : Int))] [] (nx, h, [])
  refine wp_iload_n G 1 dX9_forecastOf_0 rfl ?_
  refine wp_iconst G dX9_forecastOf_1 ?_
  refine wp_aload_n G 0 dX9_forecastOf_2 rfl ?_
  refine wp_get G 7 cOk8 fX9_54 dX9_forecastOf_3 h0 rfl ?_
  refine wp_iconst G dX9_forecastOf_6 ?_
  refine wp_isub G dX9_forecastOf_7 ?_
  refine wp_cSE (as := [zI ((f : Nat) : Int), zI 0, zI (((fc : Nat) : Int) - 1)]) (rest := []) (hp2 := (nx, h, [])) G mX9_within lX9_127 sX9_within dX9_forecastOf_8 rfl rfl (Nat.le_of_ble_eq_true rfl) (rmx_ok hR (by decide) (by decide) (by decide) (by decide)) (t_X9_within (nx := nx) (v := ((f : Nat) : Int)) (lo := 0) (hi := (((fc : Nat) : Int) - 1)) (by omega) (by omega) (by omega)) rfl ?_
  refine wp_ifeq_bt G dX9_forecastOf_11 (fun kq1 => ?_) (fun kq1 => ?_)
  · skip
    exfalso; omega
  · skip
    refine wp_aload_n G 0 dX9_forecastOf_14 rfl ?_
    refine wp_get G 6 cOk8 fX9_50 dX9_forecastOf_15 h0 rfl ?_
    refine wp_iload_n G 1 dX9_forecastOf_18 rfl ?_
    refine wp_aald (j := f) G (by decide) (by decide) dX9_forecastOf_19 h44 rfl (by omega) (by decide) ?_
    rw [show fcR fc f = some (93 + 5 * f) from if_pos hf]
    refine wp_goto G dX9_forecastOf_20 ?_
    exact wp_areturn (r := some (93 + 5 * f)) G hr (Or.inl ⟨_, rfl⟩) dX9_forecastOf_24 ⟨by rfl, rfl, by rfl⟩

set_option maxRecDepth 100000 in
set_option maxHeartbeats 4000000 in
theorem t_X9_forecastOfN {nx : Nat} {h : Nat → Option PC} {fc : Nat} {v : Int} (h0 : h 0 = some (oO 8 [zR 1, zR 2, zR 11, zR 34, zR 36, zR 42, zR 44, zI ((fc : Nat) : Int), zR 45, zR 48])) (h44 : h 44 = some (oP 5 6 (fcR fc))) (hfc : fc ≤ 6) (ri_v : r32 v) (hv : ¬ (0 ≤ v ∧ v < ((fc : Nat) : Int))) : Cx 1 (0, 0) yX9_forecastOf cX9_forecastOf 2 (some (.object "QuakeLists$Forecast")) [zR 0, zI v] nx h (Rt (zN) nx []) := by
  refine cx_of pnX9_forecastOf (Nat.le_of_ble_eq_true rfl) ?_
  intro K G hr hnm hR
  show Wp K 2 (Mx K h (Rt (zN) nx []) (0, 0)) (0, 0) 0 [(0, zR 0), (1, zI v)] [] (nx, h, [])
  refine wp_iload_n G 1 dX9_forecastOf_0 rfl ?_
  refine wp_iconst G dX9_forecastOf_1 ?_
  refine wp_aload_n G 0 dX9_forecastOf_2 rfl ?_
  refine wp_get G 7 cOk8 fX9_54 dX9_forecastOf_3 h0 rfl ?_
  refine wp_iconst G dX9_forecastOf_6 ?_
  refine wp_isub G dX9_forecastOf_7 ?_
  refine wp_cSE (as := [zI v, zI 0, zI (((fc : Nat) : Int) - 1)]) (rest := []) (hp2 := (nx, h, [])) G mX9_within lX9_127 sX9_within dX9_forecastOf_8 rfl rfl (Nat.le_of_ble_eq_true rfl) (rmx_ok hR (by decide) (by decide) (by decide) (by decide)) (t_X9_within (nx := nx) (v := v) (lo := 0) (hi := (((fc : Nat) : Int) - 1)) ri_v (by omega) (by omega)) rfl ?_
  refine wp_ifeq_bt G dX9_forecastOf_11 (fun kq1 => ?_) (fun kq1 => ?_)
  · skip
    refine wp_null G dX9_forecastOf_23 ?_
    exact wp_areturn (r := none) G hr (Or.inl ⟨_, rfl⟩) dX9_forecastOf_24 ⟨by rfl, rfl, by rfl⟩
  · skip
    exfalso; omega

set_option maxRecDepth 100000 in
set_option maxHeartbeats 4000000 in
theorem t_X9_tells {nx : Nat} {h : Nat → Option PC} {n : Nat} {q : Nat → Nat → Int} {o : Nat → Nat} {fc : Nat} {tx : Nat → Nat → Int} {sl : Nat → Nat} {v : Int} {d : Int} (hQ : isQ h n q o) (hO : okQ n q o) (h0 : h 0 = some (oO 8 [zR 1, zR 2, zR 11, zR 34, zR 36, zR 42, zR 44, zI ((fc : Nat) : Int), zR 45, zR 48])) (h44 : h 44 = some (oP 5 6 (fcR fc))) (hfc : fc ≤ 6) (hFs : ∀ k, k < fc → isFt h k tx sl) (hXs : ∀ k, k < fc → sl k ≤ 48 ∧ fltZ (tx k) (sl k) = -6) (ri_v : r32 v) (ri_d : r32 d) : Cx 4 (0, 0) yX9_tells cX9_tells 4 (some .int) [zR 0, zI v, zI d] nx h (Rt (zI (ansQ n q tx sl fc v d)) nx []) := by
  refine cx_of pnX9_tells (Nat.le_of_ble_eq_true rfl) ?_
  intro K G hr hnm hR
  obtain ⟨h2, h3, h4, h5, h6, h7, h8, h9, h10⟩ := id hQ
  have hn40 := hO.1
  show Wp K 4 (Mx K h (Rt (zI (ansQ n q tx sl fc v d)) nx []) (0, 0)) (0, 0) 0 [(0, zR 0), (1, zI v), (2, zI d)] [] (nx, h, [])
  by_cases hv_f : (0 ≤ v ∧ v < ((fc : Nat) : Int))
  · skip
    obtain ⟨f, e_f⟩ := Int.eq_ofNat_of_zero_le (show 0 ≤ v from hv_f.1)
    subst e_f
    have h_f : f < fc := by omega
    have hF_f := hFs f h_f
    have hK_f := okF_txt (hXs f h_f).1 (hXs f h_f).2
    have hr0 := hF_f.1
    refine wp_aload_n G 0 dX9_tells_0 rfl ?_
    refine wp_iload_n G 1 dX9_tells_1 rfl ?_
    refine wp_cVE (b := 0) (ci := 8) (as := [zI ((f : Nat) : Int)]) (rest := []) (hp2 := (nx, h, [])) G mX9_forecastOf lX9_264 iX9_forecastOf eX9_forecastOf ⟨_, rfl, rfl⟩ dX9_tells_2 h0 rfl rfl (Nat.le_of_ble_eq_true rfl) (rmx_ok hR (by decide) (by decide) (by decide) (by decide)) (t_X9_forecastOfY (nx := nx) (f := f) h0 h44 hfc h_f) rfl ?_
    refine wp_astore_n (lv' := [(3, zR (93 + 5 * f)), (0, zR 0), (1, zI ((f : Nat) : Int)), (2, zI d)]) G dX9_tells_5 (by decide) rfl ?_
    refine wp_aload_n G 0 dX9_tells_6 rfl ?_
    refine wp_ifnonnull (r := (some (93 + 5 * f))) G dX9_tells_7 (fun _ _ => ?_) (fun z => by cases z)
    refine wp_iload_n G 3 dX9_tells_12 rfl ?_
    refine wp_cSE (as := [zI d]) (rest := []) (hp2 := (nx, h, [])) G mX9_isDay lX9_80 sX9_isDay dX9_tells_13 rfl rfl (Nat.le_of_ble_eq_true rfl) (rmx_ok hR (by decide) (by decide) (by decide) (by decide)) (t_X9_isDay (nx := nx) (v := d) (by omega)) rfl ?_
    refine wp_ifeq_bt G dX9_tells_16 (fun kq2 => ?_) (fun kq2 => ?_)
    · skip
      refine wp_bipush G dX9_tells_31 (by decide) ?_
      exact wp_ireturn G hr dX9_tells_33 ⟨by first | (rw [ansQ, if_pos (by omega)]; done) | (rw [ansQ, if_neg (by omega), if_pos (by omega)]; done) | (rw [ansQ, if_neg (by omega), if_neg (by omega)]; rfl), rfl, by rfl⟩
    · skip
      refine wp_aload_n G 0 dX9_tells_19 rfl ?_
      refine wp_aload_n G 1 dX9_tells_20 rfl ?_
      refine wp_get G 1 cOk8 fX9_16 dX9_tells_21 h0 rfl ?_
      refine wp_iload_n G 3 dX9_tells_24 rfl ?_
      refine wp_cVE (b := (93 + 5 * f)) (ci := 1) (as := [zR 2, zI d]) (rest := []) (hp2 := (nx, h, [])) G mX1_toldFor lX9_268 iX1_toldFor eX1_toldFor ⟨_, rfl, rfl⟩ dX9_tells_25 hr0 rfl rfl (Nat.le_of_ble_eq_true rfl) (rmx_ok hR (by decide) (by decide) (by decide) (by decide)) (t_X1_toldFor (nx := nx) (r := (93 + 5 * f)) (d := d) (ru := (tE (tx f) (sl f) / 4)) (la := (rV (tx f) (sl f))) (dy := (rA (tx f) (sl f) 0)) (le := (rA (tx f) (sl f) 1)) (mo := (rA (tx f) (sl f) 2)) (ch := (rA (tx f) (sl f) 3)) hQ hO hF_f hK_f (by omega)) rfl ?_
      refine wp_goto G dX9_tells_28 ?_
      exact wp_ireturn G hr dX9_tells_33 ⟨by first | (rw [ansQ, if_pos (by omega)]; done) | (rw [ansQ, if_neg (by omega), if_pos (by omega)]; done) | (rw [ansQ, if_neg (by omega), if_neg (by omega)]; rfl), rfl, by rfl⟩
  · skip
    refine wp_aload_n G 0 dX9_tells_0 rfl ?_
    refine wp_iload_n G 1 dX9_tells_1 rfl ?_
    refine wp_cVE (b := 0) (ci := 8) (as := [zI v]) (rest := []) (hp2 := (nx, h, [])) G mX9_forecastOf lX9_264 iX9_forecastOf eX9_forecastOf ⟨_, rfl, rfl⟩ dX9_tells_2 h0 rfl rfl (Nat.le_of_ble_eq_true rfl) (rmx_ok hR (by decide) (by decide) (by decide) (by decide)) (t_X9_forecastOfN (nx := nx) (v := v) h0 h44 hfc ri_v hv_f) rfl ?_
    refine wp_astore_nN (lv' := [(3, zN), (0, zR 0), (1, zI v), (2, zI d)]) G dX9_tells_5 (by decide) rfl ?_
    refine wp_aload_nN G 0 dX9_tells_6 rfl ?_
    refine wp_ifnonnull (r := none) G dX9_tells_7 (fun _ z => by cases z) (fun _ => ?_)
    refine wp_iconst G dX9_tells_10 ?_
    exact wp_ireturn G hr dX9_tells_11 ⟨by first | (rw [ansQ, if_pos (by omega)]; done) | (rw [ansQ, if_neg (by omega), if_pos (by omega)]; done) | (rw [ansQ, if_neg (by omega), if_neg (by omega)]; rfl), rfl, by rfl⟩

set_option maxRecDepth 100000 in
set_option maxHeartbeats 4000000 in
theorem t_X9_soN {nx : Nat} {h : Nat → Option PC} {n : Nat} {q : Nat → Nat → Int} {o : Nat → Nat} {fc : Nat} {tx : Nat → Nat → Int} {sl : Nat → Nat} {v : Int} {u : Int} {w : Int} {m : Int} {a : Int} {b : Int} (hQ : isQ h n q o) (hO : okQ n q o) (h0 : h 0 = some (oO 8 [zR 1, zR 2, zR 11, zR 34, zR 36, zR 42, zR 44, zI ((fc : Nat) : Int), zR 45, zR 48])) (h44 : h 44 = some (oP 5 6 (fcR fc))) (hfc : fc ≤ 6) (hFs : ∀ k, k < fc → isFt h k tx sl) (hXs : ∀ k, k < fc → sl k ≤ 48 ∧ fltZ (tx k) (sl k) = -6) (ri_v : r32 v) (ri_u : r32 u) (ri_w : r32 w) (ri_m : r32 m) (ri_a : r32 a) (ri_b : r32 b) (hvu : ¬ ((0 ≤ v ∧ v < ((fc : Nat) : Int)) ∧ (0 ≤ u ∧ u < ((fc : Nat) : Int)))) : Cx 2 (0, 0) yX9_scoreOfMix cX9_scoreOfMix 9 (some .long) [zR 0, zI v, zI u, zI w, zI m, zI a, zI b] nx h (Rt (zJ (-1000000000000000001)) nx []) := by
  refine cx_of pnX9_scoreOfMix (Nat.le_of_ble_eq_true rfl) ?_
  intro K G hr hnm hR
  obtain ⟨h2, h3, h4, h5, h6, h7, h8, h9, h10⟩ := id hQ
  have hn40 := hO.1
  show Wp K 9 (Mx K h (Rt (zJ (-1000000000000000001)) nx []) (0, 0)) (0, 0) 0 [(0, zR 0), (1, zI v), (2, zI u), (3, zI w), (4, zI m), (5, zI a), (6, zI b)] [] (nx, h, [])
  by_cases hv_f : (0 ≤ v ∧ v < ((fc : Nat) : Int))
  · skip
    obtain ⟨f, e_f⟩ := Int.eq_ofNat_of_zero_le (show 0 ≤ v from hv_f.1)
    subst e_f
    have h_f : f < fc := by omega
    have hF_f := hFs f h_f
    have hK_f := okF_txt (hXs f h_f).1 (hXs f h_f).2
    by_cases hv_g : (0 ≤ u ∧ u < ((fc : Nat) : Int))
    · skip
      obtain ⟨g, e_g⟩ := Int.eq_ofNat_of_zero_le (show 0 ≤ u from hv_g.1)
      subst e_g
      have h_g : g < fc := by omega
      have hF_g := hFs g h_g
      have hK_g := okF_txt (hXs g h_g).1 (hXs g h_g).2
      refine wp_aload_n G 0 dX9_scoreOfMix_0 rfl ?_
      refine wp_iload_n G 1 dX9_scoreOfMix_1 rfl ?_
      refine wp_cVE (b := 0) (ci := 8) (as := [zI ((f : Nat) : Int)]) (rest := []) (hp2 := (nx, h, [])) G mX9_forecastOf lX9_264 iX9_forecastOf eX9_forecastOf ⟨_, rfl, rfl⟩ dX9_scoreOfMix_2 h0 rfl rfl (Nat.le_of_ble_eq_true rfl) (rmx_ok hR (by decide) (by decide) (by decide) (by decide)) (t_X9_forecastOfY (nx := nx) (f := f) h0 h44 hfc h_f) rfl ?_
      refine wp_astore (lv' := [(7, zR (93 + 5 * f)), (0, zR 0), (1, zI ((f : Nat) : Int)), (2, zI ((g : Nat) : Int)), (3, zI w), (4, zI m), (5, zI a), (6, zI b)]) G dX9_scoreOfMix_5 (by decide) rfl ?_
      refine wp_aload_n G 1 dX9_scoreOfMix_7 rfl ?_
      refine wp_iload_n G 3 dX9_scoreOfMix_8 rfl ?_
      refine wp_cVE (b := 0) (ci := 8) (as := [zI ((g : Nat) : Int)]) (rest := []) (hp2 := (nx, h, [])) G mX9_forecastOf lX9_264 iX9_forecastOf eX9_forecastOf ⟨_, rfl, rfl⟩ dX9_scoreOfMix_9 h0 rfl rfl (Nat.le_of_ble_eq_true rfl) (rmx_ok hR (by decide) (by decide) (by decide) (by decide)) (t_X9_forecastOfY (nx := nx) (f := g) h0 h44 hfc h_g) rfl ?_
      refine wp_astore (lv' := [(8, zR (93 + 5 * g)), (7, zR (93 + 5 * f)), (0, zR 0), (1, zI ((f : Nat) : Int)), (2, zI ((g : Nat) : Int)), (3, zI w), (4, zI m), (5, zI a), (6, zI b)]) G dX9_scoreOfMix_12 (by decide) rfl ?_
      refine wp_aload G 1 dX9_scoreOfMix_14 rfl ?_
      refine wp_ifnull (r := (some (93 + 5 * f))) G dX9_scoreOfMix_16 (fun z => by cases z) (fun _ _ => ?_)
      refine wp_aload G 0 dX9_scoreOfMix_19 rfl ?_
      refine wp_ifnonnull (r := (some (93 + 5 * g))) G dX9_scoreOfMix_21 (fun _ _ => ?_) (fun z => by cases z)
      exfalso; omega
    · skip
      refine wp_aload_n G 0 dX9_scoreOfMix_0 rfl ?_
      refine wp_iload_n G 1 dX9_scoreOfMix_1 rfl ?_
      refine wp_cVE (b := 0) (ci := 8) (as := [zI ((f : Nat) : Int)]) (rest := []) (hp2 := (nx, h, [])) G mX9_forecastOf lX9_264 iX9_forecastOf eX9_forecastOf ⟨_, rfl, rfl⟩ dX9_scoreOfMix_2 h0 rfl rfl (Nat.le_of_ble_eq_true rfl) (rmx_ok hR (by decide) (by decide) (by decide) (by decide)) (t_X9_forecastOfY (nx := nx) (f := f) h0 h44 hfc h_f) rfl ?_
      refine wp_astore (lv' := [(7, zR (93 + 5 * f)), (0, zR 0), (1, zI ((f : Nat) : Int)), (2, zI u), (3, zI w), (4, zI m), (5, zI a), (6, zI b)]) G dX9_scoreOfMix_5 (by decide) rfl ?_
      refine wp_aload_n G 1 dX9_scoreOfMix_7 rfl ?_
      refine wp_iload_n G 3 dX9_scoreOfMix_8 rfl ?_
      refine wp_cVE (b := 0) (ci := 8) (as := [zI u]) (rest := []) (hp2 := (nx, h, [])) G mX9_forecastOf lX9_264 iX9_forecastOf eX9_forecastOf ⟨_, rfl, rfl⟩ dX9_scoreOfMix_9 h0 rfl rfl (Nat.le_of_ble_eq_true rfl) (rmx_ok hR (by decide) (by decide) (by decide) (by decide)) (t_X9_forecastOfN (nx := nx) (v := u) h0 h44 hfc ri_u hv_g) rfl ?_
      refine wp_astoreN (lv' := [(8, zN), (7, zR (93 + 5 * f)), (0, zR 0), (1, zI ((f : Nat) : Int)), (2, zI u), (3, zI w), (4, zI m), (5, zI a), (6, zI b)]) G dX9_scoreOfMix_12 (by decide) rfl ?_
      refine wp_aload G 1 dX9_scoreOfMix_14 rfl ?_
      refine wp_ifnull (r := (some (93 + 5 * f))) G dX9_scoreOfMix_16 (fun z => by cases z) (fun _ _ => ?_)
      refine wp_aloadN G 0 dX9_scoreOfMix_19 rfl ?_
      refine wp_ifnonnull (r := none) G dX9_scoreOfMix_21 (fun _ z => by cases z) (fun _ => ?_)
      refine wp_ldc2 (z := -1000000000000000001) G kX9_164 dX9_scoreOfMix_24 ?_
      exact wp_lreturn G hr dX9_scoreOfMix_27 ⟨by rfl, rfl, by rfl⟩
  · skip
    by_cases hv_g : (0 ≤ u ∧ u < ((fc : Nat) : Int))
    · skip
      obtain ⟨g, e_g⟩ := Int.eq_ofNat_of_zero_le (show 0 ≤ u from hv_g.1)
      subst e_g
      have h_g : g < fc := by omega
      have hF_g := hFs g h_g
      have hK_g := okF_txt (hXs g h_g).1 (hXs g h_g).2
      refine wp_aload_n G 0 dX9_scoreOfMix_0 rfl ?_
      refine wp_iload_n G 1 dX9_scoreOfMix_1 rfl ?_
      refine wp_cVE (b := 0) (ci := 8) (as := [zI v]) (rest := []) (hp2 := (nx, h, [])) G mX9_forecastOf lX9_264 iX9_forecastOf eX9_forecastOf ⟨_, rfl, rfl⟩ dX9_scoreOfMix_2 h0 rfl rfl (Nat.le_of_ble_eq_true rfl) (rmx_ok hR (by decide) (by decide) (by decide) (by decide)) (t_X9_forecastOfN (nx := nx) (v := v) h0 h44 hfc ri_v hv_f) rfl ?_
      refine wp_astoreN (lv' := [(7, zN), (0, zR 0), (1, zI v), (2, zI ((g : Nat) : Int)), (3, zI w), (4, zI m), (5, zI a), (6, zI b)]) G dX9_scoreOfMix_5 (by decide) rfl ?_
      refine wp_aload_n G 1 dX9_scoreOfMix_7 rfl ?_
      refine wp_iload_n G 3 dX9_scoreOfMix_8 rfl ?_
      refine wp_cVE (b := 0) (ci := 8) (as := [zI ((g : Nat) : Int)]) (rest := []) (hp2 := (nx, h, [])) G mX9_forecastOf lX9_264 iX9_forecastOf eX9_forecastOf ⟨_, rfl, rfl⟩ dX9_scoreOfMix_9 h0 rfl rfl (Nat.le_of_ble_eq_true rfl) (rmx_ok hR (by decide) (by decide) (by decide) (by decide)) (t_X9_forecastOfY (nx := nx) (f := g) h0 h44 hfc h_g) rfl ?_
      refine wp_astore (lv' := [(8, zR (93 + 5 * g)), (7, zN), (0, zR 0), (1, zI v), (2, zI ((g : Nat) : Int)), (3, zI w), (4, zI m), (5, zI a), (6, zI b)]) G dX9_scoreOfMix_12 (by decide) rfl ?_
      refine wp_aloadN G 1 dX9_scoreOfMix_14 rfl ?_
      refine wp_ifnull (r := none) G dX9_scoreOfMix_16 (fun _ => ?_) (fun _ z => by cases z)
      refine wp_ldc2 (z := -1000000000000000001) G kX9_164 dX9_scoreOfMix_24 ?_
      exact wp_lreturn G hr dX9_scoreOfMix_27 ⟨by rfl, rfl, by rfl⟩
    · skip
      refine wp_aload_n G 0 dX9_scoreOfMix_0 rfl ?_
      refine wp_iload_n G 1 dX9_scoreOfMix_1 rfl ?_
      refine wp_cVE (b := 0) (ci := 8) (as := [zI v]) (rest := []) (hp2 := (nx, h, [])) G mX9_forecastOf lX9_264 iX9_forecastOf eX9_forecastOf ⟨_, rfl, rfl⟩ dX9_scoreOfMix_2 h0 rfl rfl (Nat.le_of_ble_eq_true rfl) (rmx_ok hR (by decide) (by decide) (by decide) (by decide)) (t_X9_forecastOfN (nx := nx) (v := v) h0 h44 hfc ri_v hv_f) rfl ?_
      refine wp_astoreN (lv' := [(7, zN), (0, zR 0), (1, zI v), (2, zI u), (3, zI w), (4, zI m), (5, zI a), (6, zI b)]) G dX9_scoreOfMix_5 (by decide) rfl ?_
      refine wp_aload_n G 1 dX9_scoreOfMix_7 rfl ?_
      refine wp_iload_n G 3 dX9_scoreOfMix_8 rfl ?_
      refine wp_cVE (b := 0) (ci := 8) (as := [zI u]) (rest := []) (hp2 := (nx, h, [])) G mX9_forecastOf lX9_264 iX9_forecastOf eX9_forecastOf ⟨_, rfl, rfl⟩ dX9_scoreOfMix_9 h0 rfl rfl (Nat.le_of_ble_eq_true rfl) (rmx_ok hR (by decide) (by decide) (by decide) (by decide)) (t_X9_forecastOfN (nx := nx) (v := u) h0 h44 hfc ri_u hv_g) rfl ?_
      refine wp_astoreN (lv' := [(8, zN), (7, zN), (0, zR 0), (1, zI v), (2, zI u), (3, zI w), (4, zI m), (5, zI a), (6, zI b)]) G dX9_scoreOfMix_12 (by decide) rfl ?_
      refine wp_aloadN G 1 dX9_scoreOfMix_14 rfl ?_
      refine wp_ifnull (r := none) G dX9_scoreOfMix_16 (fun _ => ?_) (fun _ z => by cases z)
      refine wp_ldc2 (z := -1000000000000000001) G kX9_164 dX9_scoreOfMix_24 ?_
      exact wp_lreturn G hr dX9_scoreOfMix_27 ⟨by rfl, rfl, by rfl⟩

set_option maxRecDepth 100000 in
set_option maxHeartbeats 4000000 in
theorem t_X9_soB {nx : Nat} {h : Nat → Option PC} {n : Nat} {q : Nat → Nat → Int} {o : Nat → Nat} {fc : Nat} {tx : Nat → Nat → Int} {sl : Nat → Nat} {f : Nat} {g : Nat} {w : Int} {m : Int} {a : Int} {b : Int} (hQ : isQ h n q o) (hO : okQ n q o) (h0 : h 0 = some (oO 8 [zR 1, zR 2, zR 11, zR 34, zR 36, zR 42, zR 44, zI ((fc : Nat) : Int), zR 45, zR 48])) (h44 : h 44 = some (oP 5 6 (fcR fc))) (hfc : fc ≤ 6) (hFs : ∀ k, k < fc → isFt h k tx sl) (hXs : ∀ k, k < fc → sl k ≤ 48 ∧ fltZ (tx k) (sl k) = -6) (hf : f < fc) (hg : g < fc) (ri_w : r32 w) (ri_m : r32 m) (ri_a : r32 a) (ri_b : r32 b) (hok : ¬ ((0 ≤ w ∧ w ≤ 10) ∧ (0 ≤ m ∧ m ≤ 90) ∧ (0 ≤ a ∧ a ≤ 3999) ∧ (0 ≤ b ∧ b ≤ 3999) ∧ a ≤ b)) : Cx 3 (0, 0) yX9_scoreOfMix cX9_scoreOfMix 9 (some .long) [zR 0, zI ((f : Nat) : Int), zI ((g : Nat) : Int), zI w, zI m, zI a, zI b] nx h (Rt (zJ (-1000000000000000002)) nx []) := by
  refine cx_of pnX9_scoreOfMix (Nat.le_of_ble_eq_true rfl) ?_
  intro K G hr hnm hR
  obtain ⟨h2, h3, h4, h5, h6, h7, h8, h9, h10⟩ := id hQ
  have hn40 := hO.1
  show Wp K 9 (Mx K h (Rt (zJ (-1000000000000000002)) nx []) (0, 0)) (0, 0) 0 [(0, zR 0), (1, zI ((f : Nat) : Int)), (2, zI ((g : Nat) : Int)), (3, zI w), (4, zI m), (5, zI a), (6, zI b)] [] (nx, h, [])
  refine wp_aload_n G 0 dX9_scoreOfMix_0 rfl ?_
  refine wp_iload_n G 1 dX9_scoreOfMix_1 rfl ?_
  refine wp_cVE (b := 0) (ci := 8) (as := [zI ((f : Nat) : Int)]) (rest := []) (hp2 := (nx, h, [])) G mX9_forecastOf lX9_264 iX9_forecastOf eX9_forecastOf ⟨_, rfl, rfl⟩ dX9_scoreOfMix_2 h0 rfl rfl (Nat.le_of_ble_eq_true rfl) (rmx_ok hR (by decide) (by decide) (by decide) (by decide)) (t_X9_forecastOfY (nx := nx) (f := f) h0 h44 hfc hf) rfl ?_
  refine wp_astore (lv' := [(7, zR (93 + 5 * f)), (0, zR 0), (1, zI ((f : Nat) : Int)), (2, zI ((g : Nat) : Int)), (3, zI w), (4, zI m), (5, zI a), (6, zI b)]) G dX9_scoreOfMix_5 (by decide) rfl ?_
  refine wp_aload_n G 1 dX9_scoreOfMix_7 rfl ?_
  refine wp_iload_n G 3 dX9_scoreOfMix_8 rfl ?_
  refine wp_cVE (b := 0) (ci := 8) (as := [zI ((g : Nat) : Int)]) (rest := []) (hp2 := (nx, h, [])) G mX9_forecastOf lX9_264 iX9_forecastOf eX9_forecastOf ⟨_, rfl, rfl⟩ dX9_scoreOfMix_9 h0 rfl rfl (Nat.le_of_ble_eq_true rfl) (rmx_ok hR (by decide) (by decide) (by decide) (by decide)) (t_X9_forecastOfY (nx := nx) (f := g) h0 h44 hfc hg) rfl ?_
  refine wp_astore (lv' := [(8, zR (93 + 5 * g)), (7, zR (93 + 5 * f)), (0, zR 0), (1, zI ((f : Nat) : Int)), (2, zI ((g : Nat) : Int)), (3, zI w), (4, zI m), (5, zI a), (6, zI b)]) G dX9_scoreOfMix_12 (by decide) rfl ?_
  refine wp_aload G 1 dX9_scoreOfMix_14 rfl ?_
  refine wp_ifnull (r := (some (93 + 5 * f))) G dX9_scoreOfMix_16 (fun z => by cases z) (fun _ _ => ?_)
  refine wp_aload G 0 dX9_scoreOfMix_19 rfl ?_
  refine wp_ifnonnull (r := (some (93 + 5 * g))) G dX9_scoreOfMix_21 (fun _ _ => ?_) (fun z => by cases z)
  refine wp_iload_n G 5 dX9_scoreOfMix_28 rfl ?_
  refine wp_iconst G dX9_scoreOfMix_29 ?_
  refine wp_bipush G dX9_scoreOfMix_30 (by decide) ?_
  refine wp_cSE (as := [zI w, zI 0, zI 10]) (rest := []) (hp2 := (nx, h, [])) G mX9_within lX9_127 sX9_within dX9_scoreOfMix_32 rfl rfl (Nat.le_of_ble_eq_true rfl) (rmx_ok hR (by decide) (by decide) (by decide) (by decide)) (t_X9_within (nx := nx) (v := w) (lo := 0) (hi := 10) (by omega) (by omega) (by omega)) rfl ?_
  refine wp_ifeq_bt G dX9_scoreOfMix_35 (fun kq3 => ?_) (fun kq3 => ?_)
  · skip
    refine wp_ldc2 (z := -1000000000000000002) G kX9_169 dX9_scoreOfMix_56 ?_
    exact wp_lreturn G hr dX9_scoreOfMix_59 ⟨by rfl, rfl, by rfl⟩
  · skip
    refine wp_iload G 6 dX9_scoreOfMix_38 rfl ?_
    refine wp_cSE (as := [zI m]) (rest := []) (hp2 := (nx, h, [])) G mX9_isGreatness lX9_83 sX9_isGreatness dX9_scoreOfMix_40 rfl rfl (Nat.le_of_ble_eq_true rfl) (rmx_ok hR (by decide) (by decide) (by decide) (by decide)) (t_X9_isGreatness (nx := nx) (v := m) (by omega)) rfl ?_
    refine wp_ifeq_bt G dX9_scoreOfMix_43 (fun kq4 => ?_) (fun kq4 => ?_)
    · skip
      refine wp_ldc2 (z := -1000000000000000002) G kX9_169 dX9_scoreOfMix_56 ?_
      exact wp_lreturn G hr dX9_scoreOfMix_59 ⟨by rfl, rfl, by rfl⟩
    · skip
      refine wp_iload G 7 dX9_scoreOfMix_46 rfl ?_
      refine wp_iload G 8 dX9_scoreOfMix_48 rfl ?_
      refine wp_cSE (as := [zI a, zI b]) (rest := []) (hp2 := (nx, h, [])) G mX9_isStretch lX9_326 sX9_isStretch dX9_scoreOfMix_50 rfl rfl (Nat.le_of_ble_eq_true rfl) (rmx_ok hR (by decide) (by decide) (by decide) (by decide)) (t_X9_isStretch (nx := nx) (v := a) (w := b) (by omega) (by omega)) rfl ?_
      refine wp_ifne_bt G dX9_scoreOfMix_53 (fun kq5 => ?_) (fun kq5 => ?_)
      · skip
        exfalso; omega
      · skip
        refine wp_ldc2 (z := -1000000000000000002) G kX9_169 dX9_scoreOfMix_56 ?_
        exact wp_lreturn G hr dX9_scoreOfMix_59 ⟨by rfl, rfl, by rfl⟩

set_option maxRecDepth 100000 in
set_option maxHeartbeats 4000000 in
theorem t_X9_soC {nx : Nat} {h : Nat → Option PC} {n : Nat} {q : Nat → Nat → Int} {o : Nat → Nat} {fc : Nat} {tx : Nat → Nat → Int} {sl : Nat → Nat} {tu : Nat → Int} {su : Nat → Int} {f : Nat} {g : Nat} {ww : Nat} {m : Int} {a : Nat} {b : Nat} (hQ : isQ h n q o) (hO : okQ n q o) (h0 : h 0 = some (oO 8 [zR 1, zR 2, zR 11, zR 34, zR 36, zR 42, zR 44, zI ((fc : Nat) : Int), zR 45, zR 48])) (h44 : h 44 = some (oP 5 6 (fcR fc))) (hfc : fc ≤ 6) (hFs : ∀ k, k < fc → isFt h k tx sl) (hXs : ∀ k, k < fc → sl k ≤ 48 ∧ fltZ (tx k) (sl k) = -6) (h45 : h 45 = some (oO 6 [zR 46, zR 47])) (h46 : h 46 = some (oA 1 4000 tu)) (h47 : h 47 = some (oL 2 11 su)) (htu : ∀ j, j < 4000 → tu j = 0) (hf : f < fc) (hg : g < fc) (hw10 : ww ≤ 10) (hm : 0 ≤ m ∧ m ≤ 90) (hab : a ≤ b) (hb9 : b ≤ 3999) : Cx 5 (0, 0) yX9_scoreOfMix cX9_scoreOfMix 9 (some .long) [zR 0, zI ((f : Nat) : Int), zI ((g : Nat) : Int), zI ((ww : Nat) : Int), zI m, zI ((a : Nat) : Int), zI ((b : Nat) : Int)] nx h (fun rr nx' l' => ∃ (S : Nat → Int) (T : Nat → Int), (∀ w, w < 11 → S w = scZ (tlT q n (tx f) (sl f)) (tlT q n (tx g) (sl g)) (dueZ q n m) ((w : Nat) : Int) ((a : Nat) : Int) (b + 1 - a)) ∧ (∀ j, j < 4000 → T j = 0) ∧ rr = some (zJ (S ww)) ∧ nx' = nx ∧ l' = [(46, oA 1 4000 T), (47, oL 2 11 S)]) := by
  refine cx_of pnX9_scoreOfMix (Nat.le_of_ble_eq_true rfl) ?_
  intro K G hr hnm hR
  obtain ⟨h2, h3, h4, h5, h6, h7, h8, h9, h10⟩ := id hQ
  have hn40 := hO.1
  have hF_f := hFs f hf
  have hK_f := okF_txt (hXs f hf).1 (hXs f hf).2
  have hF_g := hFs g hg
  have hK_g := okF_txt (hXs g hg).1 (hXs g hg).2
  show Wp K 9 (Mx K h (fun rr nx' l' => ∃ (S : Nat → Int) (T : Nat → Int), (∀ w, w < 11 → S w = scZ (tlT q n (tx f) (sl f)) (tlT q n (tx g) (sl g)) (dueZ q n m) ((w : Nat) : Int) ((a : Nat) : Int) (b + 1 - a)) ∧ (∀ j, j < 4000 → T j = 0) ∧ rr = some (zJ (S ww)) ∧ nx' = nx ∧ l' = [(46, oA 1 4000 T), (47, oL 2 11 S)]) (0, 0)) (0, 0) 0 [(0, zR 0), (1, zI ((f : Nat) : Int)), (2, zI ((g : Nat) : Int)), (3, zI ((ww : Nat) : Int)), (4, zI m), (5, zI ((a : Nat) : Int)), (6, zI ((b : Nat) : Int))] [] (nx, h, [])
  refine wp_aload_n G 0 dX9_scoreOfMix_0 rfl ?_
  refine wp_iload_n G 1 dX9_scoreOfMix_1 rfl ?_
  refine wp_cVE (b := 0) (ci := 8) (as := [zI ((f : Nat) : Int)]) (rest := []) (hp2 := (nx, h, [])) G mX9_forecastOf lX9_264 iX9_forecastOf eX9_forecastOf ⟨_, rfl, rfl⟩ dX9_scoreOfMix_2 h0 rfl rfl (Nat.le_of_ble_eq_true rfl) (rmx_ok hR (by decide) (by decide) (by decide) (by decide)) (t_X9_forecastOfY (nx := nx) (f := f) h0 h44 hfc hf) rfl ?_
  refine wp_astore (lv' := [(7, zR (93 + 5 * f)), (0, zR 0), (1, zI ((f : Nat) : Int)), (2, zI ((g : Nat) : Int)), (3, zI ((ww : Nat) : Int)), (4, zI m), (5, zI ((a : Nat) : Int)), (6, zI ((b : Nat) : Int))]) G dX9_scoreOfMix_5 (by decide) rfl ?_
  refine wp_aload_n G 1 dX9_scoreOfMix_7 rfl ?_
  refine wp_iload_n G 3 dX9_scoreOfMix_8 rfl ?_
  refine wp_cVE (b := 0) (ci := 8) (as := [zI ((g : Nat) : Int)]) (rest := []) (hp2 := (nx, h, [])) G mX9_forecastOf lX9_264 iX9_forecastOf eX9_forecastOf ⟨_, rfl, rfl⟩ dX9_scoreOfMix_9 h0 rfl rfl (Nat.le_of_ble_eq_true rfl) (rmx_ok hR (by decide) (by decide) (by decide) (by decide)) (t_X9_forecastOfY (nx := nx) (f := g) h0 h44 hfc hg) rfl ?_
  refine wp_astore (lv' := [(8, zR (93 + 5 * g)), (7, zR (93 + 5 * f)), (0, zR 0), (1, zI ((f : Nat) : Int)), (2, zI ((g : Nat) : Int)), (3, zI ((ww : Nat) : Int)), (4, zI m), (5, zI ((a : Nat) : Int)), (6, zI ((b : Nat) : Int))]) G dX9_scoreOfMix_12 (by decide) rfl ?_
  refine wp_aload G 1 dX9_scoreOfMix_14 rfl ?_
  refine wp_ifnull (r := (some (93 + 5 * f))) G dX9_scoreOfMix_16 (fun z => by cases z) (fun _ _ => ?_)
  refine wp_aload G 0 dX9_scoreOfMix_19 rfl ?_
  refine wp_ifnonnull (r := (some (93 + 5 * g))) G dX9_scoreOfMix_21 (fun _ _ => ?_) (fun z => by cases z)
  refine wp_iload_n G 5 dX9_scoreOfMix_28 rfl ?_
  refine wp_iconst G dX9_scoreOfMix_29 ?_
  refine wp_bipush G dX9_scoreOfMix_30 (by decide) ?_
  refine wp_cSE (as := [zI ((ww : Nat) : Int), zI 0, zI 10]) (rest := []) (hp2 := (nx, h, [])) G mX9_within lX9_127 sX9_within dX9_scoreOfMix_32 rfl rfl (Nat.le_of_ble_eq_true rfl) (rmx_ok hR (by decide) (by decide) (by decide) (by decide)) (t_X9_within (nx := nx) (v := ((ww : Nat) : Int)) (lo := 0) (hi := 10) (by omega) (by omega) (by omega)) rfl ?_
  refine wp_ifeq_bt G dX9_scoreOfMix_35 (fun kq3 => ?_) (fun kq3 => ?_)
  · skip
    exfalso; omega
  · skip
    refine wp_iload G 6 dX9_scoreOfMix_38 rfl ?_
    refine wp_cSE (as := [zI m]) (rest := []) (hp2 := (nx, h, [])) G mX9_isGreatness lX9_83 sX9_isGreatness dX9_scoreOfMix_40 rfl rfl (Nat.le_of_ble_eq_true rfl) (rmx_ok hR (by decide) (by decide) (by decide) (by decide)) (t_X9_isGreatness (nx := nx) (v := m) (by omega)) rfl ?_
    refine wp_ifeq_bt G dX9_scoreOfMix_43 (fun kq4 => ?_) (fun kq4 => ?_)
    · skip
      exfalso; omega
    · skip
      refine wp_iload G 7 dX9_scoreOfMix_46 rfl ?_
      refine wp_iload G 8 dX9_scoreOfMix_48 rfl ?_
      refine wp_cSE (as := [zI ((a : Nat) : Int), zI ((b : Nat) : Int)]) (rest := []) (hp2 := (nx, h, [])) G mX9_isStretch lX9_326 sX9_isStretch dX9_scoreOfMix_50 rfl rfl (Nat.le_of_ble_eq_true rfl) (rmx_ok hR (by decide) (by decide) (by decide) (by decide)) (t_X9_isStretch (nx := nx) (v := ((a : Nat) : Int)) (w := ((b : Nat) : Int)) (by omega) (by omega)) rfl ?_
      refine wp_ifne_bt G dX9_scoreOfMix_53 (fun kq5 => ?_) (fun kq5 => ?_)
      · skip
        refine wp_aload_n G 2 dX9_scoreOfMix_60 rfl ?_
        refine wp_get G 8 cOk8 fX9_61 dX9_scoreOfMix_61 h0 rfl ?_
        refine wp_aload_n G 2 dX9_scoreOfMix_64 rfl ?_
        refine wp_get G 1 cOk8 fX9_16 dX9_scoreOfMix_65 h0 rfl ?_
        refine wp_aload G 1 dX9_scoreOfMix_68 rfl ?_
        refine wp_aload G 0 dX9_scoreOfMix_70 rfl ?_
        refine wp_iload G 6 dX9_scoreOfMix_72 rfl ?_
        refine wp_iload G 7 dX9_scoreOfMix_74 rfl ?_
        refine wp_iload G 8 dX9_scoreOfMix_76 rfl ?_
        refine wp_callV (mm := (0, 0)) (b := 45) (ci := 6) (as := [zR 2, zR (93 + 5 * f), zR (93 + 5 * g), zI m, zI ((a : Nat) : Int), zI ((b : Nat) : Int)]) (rest := []) G mX7_work lX9_329 iX7_work eX7_work ⟨_, rfl, rfl⟩ dX9_scoreOfMix_78 h45 rfl rfl (Nat.le_of_ble_eq_true rfl) (rmx_ok hR (by decide) (by decide) (by decide) (by decide)) (t_X7_work (nx := nx) (r := (93 + 5 * f)) (r2 := (93 + 5 * g)) (m := m) (a := a) (b := b) (ru := (tE (tx f) (sl f) / 4)) (la := (rV (tx f) (sl f))) (dy := (rA (tx f) (sl f) 0)) (le := (rA (tx f) (sl f) 1)) (mo := (rA (tx f) (sl f) 2)) (ch := (rA (tx f) (sl f) 3)) (ru2 := (tE (tx g) (sl g) / 4)) (la2 := (rV (tx g) (sl g))) (dy2 := (rA (tx g) (sl g) 0)) (le2 := (rA (tx g) (sl g) 1)) (mo2 := (rA (tx g) (sl g) 2)) (ch2 := (rA (tx g) (sl g) 3)) hQ hO h45 h46 h47 (by omega) hF_f hK_f (by omega) hF_g hK_g (by omega) hab hb9 htu) (fun rr nx' l' hq => ?_)
        obtain ⟨Sp , Tp , hx_p0 , hx_p1 , rfl , enx , rfl⟩ := hq
        subst nx'
        show Wp K 9 (Mx K h (fun rr nx' l' => ∃ (S : Nat → Int) (T : Nat → Int), (∀ w, w < 11 → S w = scZ (tlT q n (tx f) (sl f)) (tlT q n (tx g) (sl g)) (dueZ q n m) ((w : Nat) : Int) ((a : Nat) : Int) (b + 1 - a)) ∧ (∀ j, j < 4000 → T j = 0) ∧ rr = some (zJ (S ww)) ∧ nx' = nx ∧ l' = [(46, oA 1 4000 T), (47, oL 2 11 S)]) (0, 0)) (0, 0) 81 [(8, zR (93 + 5 * g)), (7, zR (93 + 5 * f)), (0, zR 0), (1, zI ((f : Nat) : Int)), (2, zI ((g : Nat) : Int)), (3, zI ((ww : Nat) : Int)), (4, zI m), (5, zI ((a : Nat) : Int)), (6, zI ((b : Nat) : Int))] [] (nx, h, [(46, oA 1 4000 Tp), (47, oL 2 11 Sp)])
        refine wp_aload_n G 2 dX9_scoreOfMix_81 rfl ?_
        refine wp_get G 8 cOk8 fX9_61 dX9_scoreOfMix_82 h0 rfl ?_
        refine wp_get G 1 cOk6 fX9_333 dX9_scoreOfMix_85 h45 rfl ?_
        refine wp_iload_n G 5 dX9_scoreOfMix_88 rfl ?_
        refine wp_lald (j := ww) G dX9_scoreOfMix_89 rfl rfl (by omega) (by decide) ?_
        exact wp_lreturn G hr dX9_scoreOfMix_90 ⟨Sp, Tp, by exact hx_p0, by exact hx_p1, by rfl, rfl, by rfl⟩
      · skip
        exfalso; omega

set_option maxRecDepth 100000 in
set_option maxHeartbeats 4000000 in
theorem t_X9_score {nx : Nat} {h : Nat → Option PC} {n : Nat} {q : Nat → Nat → Int} {o : Nat → Nat} {fc : Nat} {tx : Nat → Nat → Int} {sl : Nat → Nat} {tu : Nat → Int} {su : Nat → Int} {v : Int} {m : Int} {a : Int} {b : Int} (hQ : isQ h n q o) (hO : okQ n q o) (h0 : h 0 = some (oO 8 [zR 1, zR 2, zR 11, zR 34, zR 36, zR 42, zR 44, zI ((fc : Nat) : Int), zR 45, zR 48])) (h44 : h 44 = some (oP 5 6 (fcR fc))) (hfc : fc ≤ 6) (hFs : ∀ k, k < fc → isFt h k tx sl) (hXs : ∀ k, k < fc → sl k ≤ 48 ∧ fltZ (tx k) (sl k) = -6) (h45 : h 45 = some (oO 6 [zR 46, zR 47])) (h46 : h 46 = some (oA 1 4000 tu)) (h47 : h 47 = some (oL 2 11 su)) (htu : ∀ j, j < 4000 → tu j = 0) (ri_v : r32 v) (ri_m : r32 m) (ri_a : r32 a) (ri_b : r32 b) : Cx 6 (0, 0) yX9_score cX9_score 5 (some .long) [zR 0, zI v, zI m, zI a, zI b] nx h (fun rr nx' l' => nx' = nx ∧ rr = some (zJ (ansY n q tx sl fc v v 10 m a b)) ∧ (l' = [] ∨ ∃ S T, (∀ j, j < 4000 → T j = 0) ∧ l' = [(47, oL 2 11 S), (46, oA 1 4000 T)])) := by
  refine cx_of pnX9_score (Nat.le_of_ble_eq_true rfl) ?_
  intro K G hr hnm hR
  obtain ⟨h2, h3, h4, h5, h6, h7, h8, h9, h10⟩ := id hQ
  have hn40 := hO.1
  show Wp K 5 (Mx K h (fun rr nx' l' => nx' = nx ∧ rr = some (zJ (ansY n q tx sl fc v v 10 m a b)) ∧ (l' = [] ∨ ∃ S T, (∀ j, j < 4000 → T j = 0) ∧ l' = [(47, oL 2 11 S), (46, oA 1 4000 T)])) (0, 0)) (0, 0) 0 [(0, zR 0), (1, zI v), (2, zI m), (3, zI a), (4, zI b)] [] (nx, h, [])
  by_cases hv_f : (0 ≤ v ∧ v < ((fc : Nat) : Int))
  · skip
    obtain ⟨f, e_f⟩ := Int.eq_ofNat_of_zero_le (show 0 ≤ v from hv_f.1)
    subst e_f
    have h_f : f < fc := by omega
    have hF_f := hFs f h_f
    have hK_f := okF_txt (hXs f h_f).1 (hXs f h_f).2
    by_cases hok : ((0 ≤ m ∧ m ≤ 90) ∧ ((0 ≤ a ∧ a ≤ 3999) ∧ (0 ≤ b ∧ b ≤ 3999) ∧ a ≤ b))
    · skip
      obtain ⟨aa, e_aa⟩ := Int.eq_ofNat_of_zero_le (show 0 ≤ a from (by omega))
      subst e_aa
      obtain ⟨bb, e_bb⟩ := Int.eq_ofNat_of_zero_le (show 0 ≤ b from (by omega))
      subst e_bb
      refine wp_aload_n G 0 dX9_score_0 rfl ?_
      refine wp_iload_n G 1 dX9_score_1 rfl ?_
      refine wp_iload_n G 1 dX9_score_2 rfl ?_
      refine wp_bipush G dX9_score_3 (by decide) ?_
      refine wp_iload_n G 2 dX9_score_5 rfl ?_
      refine wp_iload_n G 3 dX9_score_6 rfl ?_
      refine wp_iload G 4 dX9_score_7 rfl ?_
      refine wp_callV (mm := (0, 0)) (b := 0) (ci := 8) (as := [zI ((f : Nat) : Int), zI ((f : Nat) : Int), zI 10, zI m, zI ((aa : Nat) : Int), zI ((bb : Nat) : Int)]) (rest := []) G mX9_scoreOfMix lX9_271 iX9_scoreOfMix eX9_scoreOfMix ⟨_, rfl, rfl⟩ dX9_score_9 h0 rfl rfl (Nat.le_of_ble_eq_true rfl) (rmx_ok hR (by decide) (by decide) (by decide) (by decide)) (t_X9_soC (nx := nx) (f := f) (g := f) (ww := 10) (m := m) (a := aa) (b := bb) hQ hO h0 h44 hfc hFs hXs h45 h46 h47 htu h_f h_f (by omega) (by omega) (by omega) (by omega)) (fun rr nx' l' hq => ?_)
      obtain ⟨Sz , Tz , hx_z0 , hx_z1 , rfl , enx , rfl⟩ := hq
      subst nx'
      show Wp K 5 (Mx K h (fun rr nx' l' => nx' = nx ∧ rr = some (zJ (ansY n q tx sl fc ((f : Nat) : Int) ((f : Nat) : Int) 10 m ((aa : Nat) : Int) ((bb : Nat) : Int))) ∧ (l' = [] ∨ ∃ S T, (∀ j, j < 4000 → T j = 0) ∧ l' = [(47, oL 2 11 S), (46, oA 1 4000 T)])) (0, 0)) (0, 0) 12 [(0, zR 0), (1, zI ((f : Nat) : Int)), (2, zI m), (3, zI ((aa : Nat) : Int)), (4, zI ((bb : Nat) : Int))] [zJ (Sz 10)] (nx, h, [(47, oL 2 11 Sz), (46, oA 1 4000 Tz)])
      exact wp_lreturn G hr dX9_score_12 (by first | exact ⟨rfl, by rw [ansY, if_pos (by omega)], Or.inl rfl⟩ | exact ⟨rfl, by rw [ansY, if_neg (by omega), if_pos (by omega)], Or.inl rfl⟩ | exact ⟨rfl, by rw [ansY_3 h_f h_f (by omega), hx_z0 _ (by omega)]; try rfl, Or.inr ⟨_, _, hx_z1, rfl⟩⟩)
    · skip
      refine wp_aload_n G 0 dX9_score_0 rfl ?_
      refine wp_iload_n G 1 dX9_score_1 rfl ?_
      refine wp_iload_n G 1 dX9_score_2 rfl ?_
      refine wp_bipush G dX9_score_3 (by decide) ?_
      refine wp_iload_n G 2 dX9_score_5 rfl ?_
      refine wp_iload_n G 3 dX9_score_6 rfl ?_
      refine wp_iload G 4 dX9_score_7 rfl ?_
      refine wp_cVE (b := 0) (ci := 8) (as := [zI ((f : Nat) : Int), zI ((f : Nat) : Int), zI 10, zI m, zI a, zI b]) (rest := []) (hp2 := (nx, h, [])) G mX9_scoreOfMix lX9_271 iX9_scoreOfMix eX9_scoreOfMix ⟨_, rfl, rfl⟩ dX9_score_9 h0 rfl rfl (Nat.le_of_ble_eq_true rfl) (rmx_ok hR (by decide) (by decide) (by decide) (by decide)) (t_X9_soB (nx := nx) (f := f) (g := f) (w := 10) (m := m) (a := a) (b := b) hQ hO h0 h44 hfc hFs hXs h_f h_f (by omega) ri_m ri_a ri_b (by omega)) rfl ?_
      exact wp_lreturn G hr dX9_score_12 (by first | exact ⟨rfl, by rw [ansY, if_pos (by omega)], Or.inl rfl⟩ | exact ⟨rfl, by rw [ansY, if_neg (by omega), if_pos (by omega)], Or.inl rfl⟩ | exact ⟨rfl, by rw [ansY_3 h_f h_f (by omega), hx_z0 _ (by omega)]; try rfl, Or.inr ⟨_, _, hx_z1, rfl⟩⟩)
  · skip
    refine wp_aload_n G 0 dX9_score_0 rfl ?_
    refine wp_iload_n G 1 dX9_score_1 rfl ?_
    refine wp_iload_n G 1 dX9_score_2 rfl ?_
    refine wp_bipush G dX9_score_3 (by decide) ?_
    refine wp_iload_n G 2 dX9_score_5 rfl ?_
    refine wp_iload_n G 3 dX9_score_6 rfl ?_
    refine wp_iload G 4 dX9_score_7 rfl ?_
    refine wp_cVE (b := 0) (ci := 8) (as := [zI v, zI v, zI 10, zI m, zI a, zI b]) (rest := []) (hp2 := (nx, h, [])) G mX9_scoreOfMix lX9_271 iX9_scoreOfMix eX9_scoreOfMix ⟨_, rfl, rfl⟩ dX9_score_9 h0 rfl rfl (Nat.le_of_ble_eq_true rfl) (rmx_ok hR (by decide) (by decide) (by decide) (by decide)) (t_X9_soN (nx := nx) (v := v) (u := v) (w := 10) (m := m) (a := a) (b := b) hQ hO h0 h44 hfc hFs hXs ri_v (by omega) (by omega) ri_m ri_a ri_b (by omega)) rfl ?_
    exact wp_lreturn G hr dX9_score_12 (by first | exact ⟨rfl, by rw [ansY, if_pos (by omega)], Or.inl rfl⟩ | exact ⟨rfl, by rw [ansY, if_neg (by omega), if_pos (by omega)], Or.inl rfl⟩ | exact ⟨rfl, by rw [ansY_3 h_f h_f (by omega), hx_z0 _ (by omega)]; try rfl, Or.inr ⟨_, _, hx_z1, rfl⟩⟩)

set_option maxRecDepth 100000 in
set_option maxHeartbeats 4000000 in
theorem t_X9_mixed {nx : Nat} {h : Nat → Option PC} {n : Nat} {q : Nat → Nat → Int} {o : Nat → Nat} {fc : Nat} {tx : Nat → Nat → Int} {sl : Nat → Nat} {tu : Nat → Int} {su : Nat → Int} {v : Int} {u : Int} {w : Int} {m : Int} {a : Int} {b : Int} (hQ : isQ h n q o) (hO : okQ n q o) (h0 : h 0 = some (oO 8 [zR 1, zR 2, zR 11, zR 34, zR 36, zR 42, zR 44, zI ((fc : Nat) : Int), zR 45, zR 48])) (h44 : h 44 = some (oP 5 6 (fcR fc))) (hfc : fc ≤ 6) (hFs : ∀ k, k < fc → isFt h k tx sl) (hXs : ∀ k, k < fc → sl k ≤ 48 ∧ fltZ (tx k) (sl k) = -6) (h45 : h 45 = some (oO 6 [zR 46, zR 47])) (h46 : h 46 = some (oA 1 4000 tu)) (h47 : h 47 = some (oL 2 11 su)) (htu : ∀ j, j < 4000 → tu j = 0) (ri_v : r32 v) (ri_u : r32 u) (ri_w : r32 w) (ri_m : r32 m) (ri_a : r32 a) (ri_b : r32 b) : Cx 6 (0, 0) yX9_mixed cX9_mixed 7 (some .long) [zR 0, zI v, zI u, zI w, zI m, zI a, zI b] nx h (fun rr nx' l' => nx' = nx ∧ rr = some (zJ (ansY n q tx sl fc v u w m a b)) ∧ (l' = [] ∨ ∃ S T, (∀ j, j < 4000 → T j = 0) ∧ l' = [(47, oL 2 11 S), (46, oA 1 4000 T)])) := by
  refine cx_of pnX9_mixed (Nat.le_of_ble_eq_true rfl) ?_
  intro K G hr hnm hR
  obtain ⟨h2, h3, h4, h5, h6, h7, h8, h9, h10⟩ := id hQ
  have hn40 := hO.1
  show Wp K 7 (Mx K h (fun rr nx' l' => nx' = nx ∧ rr = some (zJ (ansY n q tx sl fc v u w m a b)) ∧ (l' = [] ∨ ∃ S T, (∀ j, j < 4000 → T j = 0) ∧ l' = [(47, oL 2 11 S), (46, oA 1 4000 T)])) (0, 0)) (0, 0) 0 [(0, zR 0), (1, zI v), (2, zI u), (3, zI w), (4, zI m), (5, zI a), (6, zI b)] [] (nx, h, [])
  by_cases hv_f : (0 ≤ v ∧ v < ((fc : Nat) : Int))
  · skip
    obtain ⟨f, e_f⟩ := Int.eq_ofNat_of_zero_le (show 0 ≤ v from hv_f.1)
    subst e_f
    have h_f : f < fc := by omega
    have hF_f := hFs f h_f
    have hK_f := okF_txt (hXs f h_f).1 (hXs f h_f).2
    by_cases hv_g : (0 ≤ u ∧ u < ((fc : Nat) : Int))
    · skip
      obtain ⟨g, e_g⟩ := Int.eq_ofNat_of_zero_le (show 0 ≤ u from hv_g.1)
      subst e_g
      have h_g : g < fc := by omega
      have hF_g := hFs g h_g
      have hK_g := okF_txt (hXs g h_g).1 (hXs g h_g).2
      by_cases hok : ((0 ≤ w ∧ w ≤ 10) ∧ (0 ≤ m ∧ m ≤ 90) ∧ (0 ≤ a ∧ a ≤ 3999) ∧ (0 ≤ b ∧ b ≤ 3999) ∧ a ≤ b)
      · skip
        obtain ⟨ww, e_ww⟩ := Int.eq_ofNat_of_zero_le (show 0 ≤ w from (by omega))
        subst e_ww
        obtain ⟨aa, e_aa⟩ := Int.eq_ofNat_of_zero_le (show 0 ≤ a from (by omega))
        subst e_aa
        obtain ⟨bb, e_bb⟩ := Int.eq_ofNat_of_zero_le (show 0 ≤ b from (by omega))
        subst e_bb
        refine wp_aload_n G 0 dX9_mixed_0 rfl ?_
        refine wp_iload_n G 1 dX9_mixed_1 rfl ?_
        refine wp_iload_n G 2 dX9_mixed_2 rfl ?_
        refine wp_iload_n G 3 dX9_mixed_3 rfl ?_
        refine wp_iload G 4 dX9_mixed_4 rfl ?_
        refine wp_iload G 5 dX9_mixed_6 rfl ?_
        refine wp_iload G 6 dX9_mixed_8 rfl ?_
        refine wp_callV (mm := (0, 0)) (b := 0) (ci := 8) (as := [zI ((f : Nat) : Int), zI ((g : Nat) : Int), zI ((ww : Nat) : Int), zI m, zI ((aa : Nat) : Int), zI ((bb : Nat) : Int)]) (rest := []) G mX9_scoreOfMix lX9_271 iX9_scoreOfMix eX9_scoreOfMix ⟨_, rfl, rfl⟩ dX9_mixed_10 h0 rfl rfl (Nat.le_of_ble_eq_true rfl) (rmx_ok hR (by decide) (by decide) (by decide) (by decide)) (t_X9_soC (nx := nx) (f := f) (g := g) (ww := ww) (m := m) (a := aa) (b := bb) hQ hO h0 h44 hfc hFs hXs h45 h46 h47 htu h_f h_g (by omega) (by omega) (by omega) (by omega)) (fun rr nx' l' hq => ?_)
        obtain ⟨Sz , Tz , hx_z0 , hx_z1 , rfl , enx , rfl⟩ := hq
        subst nx'
        show Wp K 7 (Mx K h (fun rr nx' l' => nx' = nx ∧ rr = some (zJ (ansY n q tx sl fc ((f : Nat) : Int) ((g : Nat) : Int) ((ww : Nat) : Int) m ((aa : Nat) : Int) ((bb : Nat) : Int))) ∧ (l' = [] ∨ ∃ S T, (∀ j, j < 4000 → T j = 0) ∧ l' = [(47, oL 2 11 S), (46, oA 1 4000 T)])) (0, 0)) (0, 0) 13 [(0, zR 0), (1, zI ((f : Nat) : Int)), (2, zI ((g : Nat) : Int)), (3, zI ((ww : Nat) : Int)), (4, zI m), (5, zI ((aa : Nat) : Int)), (6, zI ((bb : Nat) : Int))] [zJ (Sz ww)] (nx, h, [(47, oL 2 11 Sz), (46, oA 1 4000 Tz)])
        exact wp_lreturn G hr dX9_mixed_13 (by first | exact ⟨rfl, by rw [ansY, if_pos (by omega)], Or.inl rfl⟩ | exact ⟨rfl, by rw [ansY, if_neg (by omega), if_pos (by omega)], Or.inl rfl⟩ | exact ⟨rfl, by rw [ansY_3 h_f h_g (by omega), hx_z0 _ (by omega)]; try rfl, Or.inr ⟨_, _, hx_z1, rfl⟩⟩)
      · skip
        refine wp_aload_n G 0 dX9_mixed_0 rfl ?_
        refine wp_iload_n G 1 dX9_mixed_1 rfl ?_
        refine wp_iload_n G 2 dX9_mixed_2 rfl ?_
        refine wp_iload_n G 3 dX9_mixed_3 rfl ?_
        refine wp_iload G 4 dX9_mixed_4 rfl ?_
        refine wp_iload G 5 dX9_mixed_6 rfl ?_
        refine wp_iload G 6 dX9_mixed_8 rfl ?_
        refine wp_cVE (b := 0) (ci := 8) (as := [zI ((f : Nat) : Int), zI ((g : Nat) : Int), zI w, zI m, zI a, zI b]) (rest := []) (hp2 := (nx, h, [])) G mX9_scoreOfMix lX9_271 iX9_scoreOfMix eX9_scoreOfMix ⟨_, rfl, rfl⟩ dX9_mixed_10 h0 rfl rfl (Nat.le_of_ble_eq_true rfl) (rmx_ok hR (by decide) (by decide) (by decide) (by decide)) (t_X9_soB (nx := nx) (f := f) (g := g) (w := w) (m := m) (a := a) (b := b) hQ hO h0 h44 hfc hFs hXs h_f h_g ri_w ri_m ri_a ri_b (by omega)) rfl ?_
        exact wp_lreturn G hr dX9_mixed_13 (by first | exact ⟨rfl, by rw [ansY, if_pos (by omega)], Or.inl rfl⟩ | exact ⟨rfl, by rw [ansY, if_neg (by omega), if_pos (by omega)], Or.inl rfl⟩ | exact ⟨rfl, by rw [ansY_3 h_f h_g (by omega), hx_z0 _ (by omega)]; try rfl, Or.inr ⟨_, _, hx_z1, rfl⟩⟩)
    · skip
      refine wp_aload_n G 0 dX9_mixed_0 rfl ?_
      refine wp_iload_n G 1 dX9_mixed_1 rfl ?_
      refine wp_iload_n G 2 dX9_mixed_2 rfl ?_
      refine wp_iload_n G 3 dX9_mixed_3 rfl ?_
      refine wp_iload G 4 dX9_mixed_4 rfl ?_
      refine wp_iload G 5 dX9_mixed_6 rfl ?_
      refine wp_iload G 6 dX9_mixed_8 rfl ?_
      refine wp_cVE (b := 0) (ci := 8) (as := [zI ((f : Nat) : Int), zI u, zI w, zI m, zI a, zI b]) (rest := []) (hp2 := (nx, h, [])) G mX9_scoreOfMix lX9_271 iX9_scoreOfMix eX9_scoreOfMix ⟨_, rfl, rfl⟩ dX9_mixed_10 h0 rfl rfl (Nat.le_of_ble_eq_true rfl) (rmx_ok hR (by decide) (by decide) (by decide) (by decide)) (t_X9_soN (nx := nx) (v := ((f : Nat) : Int)) (u := u) (w := w) (m := m) (a := a) (b := b) hQ hO h0 h44 hfc hFs hXs ri_v ri_u ri_w ri_m ri_a ri_b (by omega)) rfl ?_
      exact wp_lreturn G hr dX9_mixed_13 (by first | exact ⟨rfl, by rw [ansY, if_pos (by omega)], Or.inl rfl⟩ | exact ⟨rfl, by rw [ansY, if_neg (by omega), if_pos (by omega)], Or.inl rfl⟩ | exact ⟨rfl, by rw [ansY_3 h_f h_g (by omega), hx_z0 _ (by omega)]; try rfl, Or.inr ⟨_, _, hx_z1, rfl⟩⟩)
  · skip
    refine wp_aload_n G 0 dX9_mixed_0 rfl ?_
    refine wp_iload_n G 1 dX9_mixed_1 rfl ?_
    refine wp_iload_n G 2 dX9_mixed_2 rfl ?_
    refine wp_iload_n G 3 dX9_mixed_3 rfl ?_
    refine wp_iload G 4 dX9_mixed_4 rfl ?_
    refine wp_iload G 5 dX9_mixed_6 rfl ?_
    refine wp_iload G 6 dX9_mixed_8 rfl ?_
    refine wp_cVE (b := 0) (ci := 8) (as := [zI v, zI u, zI w, zI m, zI a, zI b]) (rest := []) (hp2 := (nx, h, [])) G mX9_scoreOfMix lX9_271 iX9_scoreOfMix eX9_scoreOfMix ⟨_, rfl, rfl⟩ dX9_mixed_10 h0 rfl rfl (Nat.le_of_ble_eq_true rfl) (rmx_ok hR (by decide) (by decide) (by decide) (by decide)) (t_X9_soN (nx := nx) (v := v) (u := u) (w := w) (m := m) (a := a) (b := b) hQ hO h0 h44 hfc hFs hXs ri_v ri_u ri_w ri_m ri_a ri_b (by omega)) rfl ?_
    exact wp_lreturn G hr dX9_mixed_13 (by first | exact ⟨rfl, by rw [ansY, if_pos (by omega)], Or.inl rfl⟩ | exact ⟨rfl, by rw [ansY, if_neg (by omega), if_pos (by omega)], Or.inl rfl⟩ | exact ⟨rfl, by rw [ansY_3 h_f h_g (by omega), hx_z0 _ (by omega)]; try rfl, Or.inr ⟨_, _, hx_z1, rfl⟩⟩)

set_option maxRecDepth 100000 in
set_option maxHeartbeats 4000000 in
theorem t_X9_best {nx : Nat} {h : Nat → Option PC} {n : Nat} {q : Nat → Nat → Int} {o : Nat → Nat} {fc : Nat} {tx : Nat → Nat → Int} {sl : Nat → Nat} {tu : Nat → Int} {su : Nat → Int} {v : Int} {u : Int} {m : Int} {a : Int} {b : Int} (hQ : isQ h n q o) (hO : okQ n q o) (h0 : h 0 = some (oO 8 [zR 1, zR 2, zR 11, zR 34, zR 36, zR 42, zR 44, zI ((fc : Nat) : Int), zR 45, zR 48])) (h44 : h 44 = some (oP 5 6 (fcR fc))) (hfc : fc ≤ 6) (hFs : ∀ k, k < fc → isFt h k tx sl) (hXs : ∀ k, k < fc → sl k ≤ 48 ∧ fltZ (tx k) (sl k) = -6) (h45 : h 45 = some (oO 6 [zR 46, zR 47])) (h46 : h 46 = some (oA 1 4000 tu)) (h47 : h 47 = some (oL 2 11 su)) (htu : ∀ j, j < 4000 → tu j = 0) (ri_v : r32 v) (ri_u : r32 u) (ri_m : r32 m) (ri_a : r32 a) (ri_b : r32 b) : Cx 6 (0, 0) yX9_best cX9_best 8 (some .int) [zR 0, zI v, zI u, zI m, zI a, zI b] nx h (fun rr nx' l' => nx' = nx ∧ rr = some (zI (ansZ n q tx sl fc v u m a b)) ∧ (l' = [] ∨ ∃ S T, (∀ j, j < 4000 → T j = 0) ∧ l' = [(47, oL 2 11 S), (46, oA 1 4000 T)])) := by
  refine cx_of pnX9_best (Nat.le_of_ble_eq_true rfl) ?_
  intro K G hr hnm hR
  obtain ⟨h2, h3, h4, h5, h6, h7, h8, h9, h10⟩ := id hQ
  have hn40 := hO.1
  show Wp K 8 (Mx K h (fun rr nx' l' => nx' = nx ∧ rr = some (zI (ansZ n q tx sl fc v u m a b)) ∧ (l' = [] ∨ ∃ S T, (∀ j, j < 4000 → T j = 0) ∧ l' = [(47, oL 2 11 S), (46, oA 1 4000 T)])) (0, 0)) (0, 0) 0 [(0, zR 0), (1, zI v), (2, zI u), (3, zI m), (4, zI a), (5, zI b)] [] (nx, h, [])
  by_cases hv_f : (0 ≤ v ∧ v < ((fc : Nat) : Int))
  · skip
    obtain ⟨f, e_f⟩ := Int.eq_ofNat_of_zero_le (show 0 ≤ v from hv_f.1)
    subst e_f
    have h_f : f < fc := by omega
    have hF_f := hFs f h_f
    have hK_f := okF_txt (hXs f h_f).1 (hXs f h_f).2
    by_cases hv_g : (0 ≤ u ∧ u < ((fc : Nat) : Int))
    · skip
      obtain ⟨g, e_g⟩ := Int.eq_ofNat_of_zero_le (show 0 ≤ u from hv_g.1)
      subst e_g
      have h_g : g < fc := by omega
      have hF_g := hFs g h_g
      have hK_g := okF_txt (hXs g h_g).1 (hXs g h_g).2
      by_cases hok : ((0 ≤ m ∧ m ≤ 90) ∧ ((0 ≤ a ∧ a ≤ 3999) ∧ (0 ≤ b ∧ b ≤ 3999) ∧ a ≤ b))
      · skip
        obtain ⟨aa, e_aa⟩ := Int.eq_ofNat_of_zero_le (show 0 ≤ a from (by omega))
        subst e_aa
        obtain ⟨bb, e_bb⟩ := Int.eq_ofNat_of_zero_le (show 0 ≤ b from (by omega))
        subst e_bb
        refine wp_aload_n G 0 dX9_best_0 rfl ?_
        refine wp_iload_n G 1 dX9_best_1 rfl ?_
        refine wp_iload_n G 2 dX9_best_2 rfl ?_
        refine wp_bipush G dX9_best_3 (by decide) ?_
        refine wp_iload_n G 3 dX9_best_5 rfl ?_
        refine wp_iload G 4 dX9_best_6 rfl ?_
        refine wp_iload G 5 dX9_best_8 rfl ?_
        refine wp_callV (mm := (0, 0)) (b := 0) (ci := 8) (as := [zI ((f : Nat) : Int), zI ((g : Nat) : Int), zI 10, zI m, zI ((aa : Nat) : Int), zI ((bb : Nat) : Int)]) (rest := []) G mX9_scoreOfMix lX9_271 iX9_scoreOfMix eX9_scoreOfMix ⟨_, rfl, rfl⟩ dX9_best_10 h0 rfl rfl (Nat.le_of_ble_eq_true rfl) (rmx_ok hR (by decide) (by decide) (by decide) (by decide)) (t_X9_soC (nx := nx) (f := f) (g := g) (ww := 10) (m := m) (a := aa) (b := bb) hQ hO h0 h44 hfc hFs hXs h45 h46 h47 htu h_f h_g (by omega) (by omega) (by omega) (by omega)) (fun rr nx' l' hq => ?_)
        obtain ⟨Sz , Tz , hx_z0 , hx_z1 , rfl , enx , rfl⟩ := hq
        subst nx'
        show Wp K 8 (Mx K h (fun rr nx' l' => nx' = nx ∧ rr = some (zI (ansZ n q tx sl fc ((f : Nat) : Int) ((g : Nat) : Int) m ((aa : Nat) : Int) ((bb : Nat) : Int))) ∧ (l' = [] ∨ ∃ S T, (∀ j, j < 4000 → T j = 0) ∧ l' = [(47, oL 2 11 S), (46, oA 1 4000 T)])) (0, 0)) (0, 0) 13 [(0, zR 0), (1, zI ((f : Nat) : Int)), (2, zI ((g : Nat) : Int)), (3, zI m), (4, zI ((aa : Nat) : Int)), (5, zI ((bb : Nat) : Int))] [zJ (Sz 10)] (nx, h, [(47, oL 2 11 Sz), (46, oA 1 4000 Tz)])
        have hsz : ∀ w, w < 11 → 0 ≤ Sz w ∧ Sz w ≤ 1000000000000 := fun w hw => by rw [hx_z0 w hw]; exact scf_b (hXs f h_f) (hXs g h_g) (by omega) (by omega)
        have hs10 := hsz 10 (by decide)
        refine wp_lstore (lv' := [(6, zJ (Sz 10)), (0, zR 0), (1, zI ((f : Nat) : Int)), (2, zI ((g : Nat) : Int)), (3, zI m), (4, zI ((aa : Nat) : Int)), (5, zI ((bb : Nat) : Int))]) G dX9_best_13 (by decide) rfl ?_
        refine wp_lload G 0 dX9_best_15 rfl ?_
        refine wp_lconst (z := 0) G dX9_best_17 (by decide) ?_
        refine wp_lcmp G (by omega) (by omega) dX9_best_18 ?_
        refine wp_if_ge G dX9_best_19 (cmpZ_r _ _) (fun kq1 => ?_) (fun kq1 => ?_)
        · have kq1 : 0 ≤ (Sz 10) := Int.not_lt.mp (fun z => absurd (cmpZ_lt.mpr z) (Int.not_lt.mpr kq1))
          refine wp_aload_n G 1 dX9_best_32 rfl ?_
          refine wp_get G 8 cOk8 fX9_61 dX9_best_33 h0 rfl ?_
          refine wp_cVE (b := 45) (ci := 6) (as := []) (rest := []) (hp2 := (nx, h, [(47, oL 2 11 Sz), (46, oA 1 4000 Tz)])) G mX7_leastMix lX9_277 iX7_leastMix eX7_leastMix ⟨_, rfl, rfl⟩ dX9_best_36 h45 rfl rfl (Nat.le_of_ble_eq_true rfl) (rmx_ok hR (by decide) (by decide) (by decide) (by decide)) (t_X7_leastMix (nx := nx) (su := Sz) (tu := Tz) h45 rfl rfl hsz) rfl ?_
          exact wp_ireturn G hr dX9_best_39 (by first | exact ⟨rfl, by rw [ansZ, if_pos (by omega)]; rfl, Or.inl rfl⟩ | exact ⟨rfl, by rw [ansZ, if_neg (by omega), if_pos (by omega)]; rfl, Or.inl rfl⟩ | exact ⟨rfl, by rw [ansZ_3 h_f h_g (by omega), lmF_congr 10 (fun j hj => hx_z0 j (by omega))], Or.inr ⟨_, _, hx_z1, rfl⟩⟩)
        · have kq1 : (Sz 10) < 0 := cmpZ_lt.mp kq1
          exfalso; omega
      · skip
        refine wp_aload_n G 0 dX9_best_0 rfl ?_
        refine wp_iload_n G 1 dX9_best_1 rfl ?_
        refine wp_iload_n G 2 dX9_best_2 rfl ?_
        refine wp_bipush G dX9_best_3 (by decide) ?_
        refine wp_iload_n G 3 dX9_best_5 rfl ?_
        refine wp_iload G 4 dX9_best_6 rfl ?_
        refine wp_iload G 5 dX9_best_8 rfl ?_
        refine wp_cVE (b := 0) (ci := 8) (as := [zI ((f : Nat) : Int), zI ((g : Nat) : Int), zI 10, zI m, zI a, zI b]) (rest := []) (hp2 := (nx, h, [])) G mX9_scoreOfMix lX9_271 iX9_scoreOfMix eX9_scoreOfMix ⟨_, rfl, rfl⟩ dX9_best_10 h0 rfl rfl (Nat.le_of_ble_eq_true rfl) (rmx_ok hR (by decide) (by decide) (by decide) (by decide)) (t_X9_soB (nx := nx) (f := f) (g := g) (w := 10) (m := m) (a := a) (b := b) hQ hO h0 h44 hfc hFs hXs h_f h_g (by omega) ri_m ri_a ri_b (by omega)) rfl ?_
        refine wp_lstore (lv' := [(6, zJ (-1000000000000000002)), (0, zR 0), (1, zI ((f : Nat) : Int)), (2, zI ((g : Nat) : Int)), (3, zI m), (4, zI a), (5, zI b)]) G dX9_best_13 (by decide) rfl ?_
        refine wp_lload G 0 dX9_best_15 rfl ?_
        refine wp_lconst (z := 0) G dX9_best_17 (by decide) ?_
        refine wp_lcmp G (by omega) (by omega) dX9_best_18 ?_
        refine wp_if_ge G dX9_best_19 (cmpZ_r _ _) (fun kq2 => ?_) (fun kq2 => ?_)
        · have kq2 : 0 ≤ (-1000000000000000002) := Int.not_lt.mp (fun z => absurd (cmpZ_lt.mpr z) (Int.not_lt.mpr kq2))
          exfalso; omega
        · have kq2 : (-1000000000000000002) < 0 := cmpZ_lt.mp kq2
          refine wp_lload G 0 dX9_best_22 rfl ?_
          refine wp_ldc2 (z := -1000000000000000000) G kX9_275 dX9_best_24 ?_
          refine wp_lsub G dX9_best_27 ?_
          refine wp_l2i G dX9_best_28 ?_
          refine wp_goto G dX9_best_29 ?_
          exact wp_ireturn G hr dX9_best_39 (by first | exact ⟨rfl, by rw [ansZ, if_pos (by omega)]; rfl, Or.inl rfl⟩ | exact ⟨rfl, by rw [ansZ, if_neg (by omega), if_pos (by omega)]; rfl, Or.inl rfl⟩ | exact ⟨rfl, by rw [ansZ_3 h_f h_g (by omega), lmF_congr 10 (fun j hj => hx_z0 j (by omega))], Or.inr ⟨_, _, hx_z1, rfl⟩⟩)
    · skip
      refine wp_aload_n G 0 dX9_best_0 rfl ?_
      refine wp_iload_n G 1 dX9_best_1 rfl ?_
      refine wp_iload_n G 2 dX9_best_2 rfl ?_
      refine wp_bipush G dX9_best_3 (by decide) ?_
      refine wp_iload_n G 3 dX9_best_5 rfl ?_
      refine wp_iload G 4 dX9_best_6 rfl ?_
      refine wp_iload G 5 dX9_best_8 rfl ?_
      refine wp_cVE (b := 0) (ci := 8) (as := [zI ((f : Nat) : Int), zI u, zI 10, zI m, zI a, zI b]) (rest := []) (hp2 := (nx, h, [])) G mX9_scoreOfMix lX9_271 iX9_scoreOfMix eX9_scoreOfMix ⟨_, rfl, rfl⟩ dX9_best_10 h0 rfl rfl (Nat.le_of_ble_eq_true rfl) (rmx_ok hR (by decide) (by decide) (by decide) (by decide)) (t_X9_soN (nx := nx) (v := ((f : Nat) : Int)) (u := u) (w := 10) (m := m) (a := a) (b := b) hQ hO h0 h44 hfc hFs hXs ri_v ri_u (by omega) ri_m ri_a ri_b (by omega)) rfl ?_
      refine wp_lstore (lv' := [(6, zJ (-1000000000000000001)), (0, zR 0), (1, zI ((f : Nat) : Int)), (2, zI u), (3, zI m), (4, zI a), (5, zI b)]) G dX9_best_13 (by decide) rfl ?_
      refine wp_lload G 0 dX9_best_15 rfl ?_
      refine wp_lconst (z := 0) G dX9_best_17 (by decide) ?_
      refine wp_lcmp G (by omega) (by omega) dX9_best_18 ?_
      refine wp_if_ge G dX9_best_19 (cmpZ_r _ _) (fun kq3 => ?_) (fun kq3 => ?_)
      · have kq3 : 0 ≤ (-1000000000000000001) := Int.not_lt.mp (fun z => absurd (cmpZ_lt.mpr z) (Int.not_lt.mpr kq3))
        exfalso; omega
      · have kq3 : (-1000000000000000001) < 0 := cmpZ_lt.mp kq3
        refine wp_lload G 0 dX9_best_22 rfl ?_
        refine wp_ldc2 (z := -1000000000000000000) G kX9_275 dX9_best_24 ?_
        refine wp_lsub G dX9_best_27 ?_
        refine wp_l2i G dX9_best_28 ?_
        refine wp_goto G dX9_best_29 ?_
        exact wp_ireturn G hr dX9_best_39 (by first | exact ⟨rfl, by rw [ansZ, if_pos (by omega)]; rfl, Or.inl rfl⟩ | exact ⟨rfl, by rw [ansZ, if_neg (by omega), if_pos (by omega)]; rfl, Or.inl rfl⟩ | exact ⟨rfl, by rw [ansZ_3 h_f h_g (by omega), lmF_congr 10 (fun j hj => hx_z0 j (by omega))], Or.inr ⟨_, _, hx_z1, rfl⟩⟩)
  · skip
    refine wp_aload_n G 0 dX9_best_0 rfl ?_
    refine wp_iload_n G 1 dX9_best_1 rfl ?_
    refine wp_iload_n G 2 dX9_best_2 rfl ?_
    refine wp_bipush G dX9_best_3 (by decide) ?_
    refine wp_iload_n G 3 dX9_best_5 rfl ?_
    refine wp_iload G 4 dX9_best_6 rfl ?_
    refine wp_iload G 5 dX9_best_8 rfl ?_
    refine wp_cVE (b := 0) (ci := 8) (as := [zI v, zI u, zI 10, zI m, zI a, zI b]) (rest := []) (hp2 := (nx, h, [])) G mX9_scoreOfMix lX9_271 iX9_scoreOfMix eX9_scoreOfMix ⟨_, rfl, rfl⟩ dX9_best_10 h0 rfl rfl (Nat.le_of_ble_eq_true rfl) (rmx_ok hR (by decide) (by decide) (by decide) (by decide)) (t_X9_soN (nx := nx) (v := v) (u := u) (w := 10) (m := m) (a := a) (b := b) hQ hO h0 h44 hfc hFs hXs ri_v ri_u (by omega) ri_m ri_a ri_b (by omega)) rfl ?_
    refine wp_lstore (lv' := [(6, zJ (-1000000000000000001)), (0, zR 0), (1, zI v), (2, zI u), (3, zI m), (4, zI a), (5, zI b)]) G dX9_best_13 (by decide) rfl ?_
    refine wp_lload G 0 dX9_best_15 rfl ?_
    refine wp_lconst (z := 0) G dX9_best_17 (by decide) ?_
    refine wp_lcmp G (by omega) (by omega) dX9_best_18 ?_
    refine wp_if_ge G dX9_best_19 (cmpZ_r _ _) (fun kq4 => ?_) (fun kq4 => ?_)
    · have kq4 : 0 ≤ (-1000000000000000001) := Int.not_lt.mp (fun z => absurd (cmpZ_lt.mpr z) (Int.not_lt.mpr kq4))
      exfalso; omega
    · have kq4 : (-1000000000000000001) < 0 := cmpZ_lt.mp kq4
      refine wp_lload G 0 dX9_best_22 rfl ?_
      refine wp_ldc2 (z := -1000000000000000000) G kX9_275 dX9_best_24 ?_
      refine wp_lsub G dX9_best_27 ?_
      refine wp_l2i G dX9_best_28 ?_
      refine wp_goto G dX9_best_29 ?_
      exact wp_ireturn G hr dX9_best_39 (by first | exact ⟨rfl, by rw [ansZ, if_pos (by omega)]; rfl, Or.inl rfl⟩ | exact ⟨rfl, by rw [ansZ, if_neg (by omega), if_pos (by omega)]; rfl, Or.inl rfl⟩ | exact ⟨rfl, by rw [ansZ_3 h_f h_g (by omega), lmF_congr 10 (fun j hj => hx_z0 j (by omega))], Or.inr ⟨_, _, hx_z1, rfl⟩⟩)

