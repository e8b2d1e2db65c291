def XJ (q : Nat → Nat → Int) (st : Nat → Int) (la lb : Nat → Nat) : Nat → Nat → Int := fun i j => msZ q st (la i) (lb j)
def fJ (X : Nat → Nat → Int) (b : Nat → Int) (i s j : Nat) : Int := if X i j < 0 ∨ s / 2 ^ j % 2 = 1 then -1 else 10000 - X i j + b (s ||| 2 ^ j)
def jmx (f : Nat → Int) (b : Int) : Nat → Int
  | 0 => b
  | j + 1 => max (jmx f b j) (f j)
def bj (X : Nat → Nat → Int) (ma mb : Nat) : Nat → Nat → Int
  | 0, _ => 0
  | r + 1, s => jmx (fJ X (bj X ma mb r) (ma - (r + 1)) s) (bj X ma mb r s) mb
theorem farZ_0 (a b c e : Int) : 0 ≤ farZ a b c e := by
  unfold farZ
  split <;> split <;> omega
theorem msZ_b {q : Nat → Nat → Int} {st : Nat → Int} (hN : okN st) (i j : Nat) : -1 ≤ msZ q st i j ∧ msZ q st i j ≤ 35 := by
  obtain ⟨h0, h1, h2, -, -⟩ := hN
  have hf := farZ_0 (q 2 i) (q 3 i) (q 2 j) (q 3 j)
  have ha : 0 ≤ (if 0 ≤ (q 1 i - q 1 j) then (q 1 i - q 1 j) else -(q 1 i - q 1 j)) := by split <;> omega
  have hb : 0 ≤ (if 0 ≤ (q 4 i - q 4 j) then (q 4 i - q 4 j) else -(q 4 i - q 4 j)) := by split <;> omega
  unfold msZ
  generalize (if 0 ≤ (q 1 i - q 1 j) then (q 1 i - q 1 j) else -(q 1 i - q 1 j)) = x at *
  generalize (if 0 ≤ (q 4 i - q 4 j) then (q 4 i - q 4 j) else -(q 4 i - q 4 j)) = y at *
  generalize farZ (q 2 i) (q 3 i) (q 2 j) (q 3 j) = z at *
  split <;> omega
theorem XJ_b {q : Nat → Nat → Int} {st : Nat → Int} {la lb : Nat → Nat} (hN : okN st) (i j : Nat) : -1 ≤ XJ q st la lb i j ∧ XJ q st la lb i j ≤ 35 := msZ_b hN _ _
theorem fJ_b {X : Nat → Nat → Int} {b : Nat → Int} {B : Int} (hX : ∀ i j, X i j ≤ 35) (hb : ∀ s, 0 ≤ b s ∧ b s ≤ B) (i s j : Nat) : -1 ≤ fJ X b i s j ∧ fJ X b i s j ≤ B + 10000 := by
  have h1 := hX i j
  have h2 := hb (s ||| 2 ^ j)
  unfold fJ
  split <;> omega
theorem jm_b {X : Nat → Nat → Int} {b : Nat → Int} {B : Int} {mb : Nat} (hX : ∀ i j, X i j ≤ 35) (hb : ∀ s, 0 ≤ b s ∧ b s ≤ B) (i s : Nat) : ∀ j, 0 ≤ jmx (fJ X b i s) (b s) j ∧ jmx (fJ X b i s) (b s) j ≤ B + 10000
  | 0 => by have := hb s; rw [jmx]; omega
  | j + 1 => by
    have := jm_b (mb := mb) hX hb i s j
    have := fJ_b hX hb i s j
    rw [jmx]
    omega
theorem bj_b {X : Nat → Nat → Int} {ma mb : Nat} (hX : ∀ i j, X i j ≤ 35) : ∀ r s, 0 ≤ bj X ma mb r s ∧ bj X ma mb r s ≤ 10000 * ((r : Nat) : Int)
  | 0, s => by rw [bj]; omega
  | r + 1, s => by
    have := jm_b (mb := mb) hX (bj_b (ma := ma) (mb := mb) hX r) (ma - (r + 1)) s mb
    rw [bj]
    omega
theorem bj_s {X : Nat → Nat → Int} {ma mb c s : Nat} (hc : c < ma) : bj X ma mb (ma - c) s = jmx (fJ X (bj X ma mb (ma - (c + 1))) c s) (bj X ma mb (ma - (c + 1)) s) mb := by
  obtain ⟨r, hr⟩ : ∃ r, ma - c = r + 1 := ⟨ma - c - 1, by omega⟩
  rw [hr, bj, show ma - (r + 1) = c by omega, show ma - (c + 1) = r by omega]
theorem fJ_e {X : Nat → Nat → Int} {R b : Nat → Int} {i s j p : Nat} (h : ∀ t, t < p → R t = b t) (ho : s ||| 2 ^ j < p) : fJ X R i s j = fJ X b i s j := by
  unfold fJ
  rw [h _ ho]
theorem or_lt {s j m : Nat} (hs : s < 2 ^ m) (hj : j < m) : s ||| 2 ^ j < 2 ^ m := Nat.or_lt_two_pow hs (Nat.pow_lt_pow_right (by decide) hj)
theorem z_put {R : Nat → Int} {m k : Nat} (h : ∀ t, t < k → R (4096 * m + t) = 0) : ∀ t, t < k + 1 → fup R (4096 * m + k) 0 (4096 * m + t) = 0 := by
  intro t ht
  by_cases e : t = k
  · rw [e, fup_self]
  · rw [fup_ne _ _ (by omega)]
    exact h t (by omega)
theorem k_put {R : Nat → Int} {F : Nat → Nat → Int} {c s ma p : Nat} {v : Int} (hp : p ≤ 4096) (hs : s < p) (h : ∀ e, c + 1 ≤ e → e ≤ ma → ∀ t, t < p → R (4096 * e + t) = F e t) : ∀ e, c + 1 ≤ e → e ≤ ma → ∀ t, t < p → fup R (4096 * c + s) v (4096 * e + t) = F e t := by
  intro e h1 h2 t ht
  rw [fup_ne _ _ (by omega)]
  exact h e h1 h2 t ht
theorem s_put {R : Nat → Int} {F : Nat → Int} {c s : Nat} {v : Int} (h : ∀ t, t < s → R (4096 * c + t) = F t) (hv : v = F s) : ∀ t, t < s + 1 → fup R (4096 * c + s) v (4096 * c + t) = F t := by
  intro t ht
  by_cases e : t = s
  · rw [e, fup_self, hv]
  · rw [fup_ne _ _ (by omega)]
    exact h t (by omega)

set_option maxRecDepth 100000 in
set_option maxHeartbeats 4000000 in
theorem t_X10_joinBy {nx : Nat} {h : Nat → Option PC} {n : Nat} {q : Nat → Nat → Int} {o : Nat → Nat} {fc : Nat} {hn : Nat} {ln : Nat} {ma : Nat} {mb : Nat} {st : Nat → Int} {A : Nat → Int} {B : Nat → Int} {J : Nat → Int} {la : Nat → Nat} {lb : Nat → Nat} {i : Nat} {s : Nat} {j : Nat} (hQ : isM h n q o fc hn ln ((ma : Nat) : Int) ((mb : Nat) : Int) st) (hO : okQ n q o) (hN : okN st) (hJ : isMj h A B J) (ha12 : ma ≤ 12) (hb12 : mb ≤ 12) (hA : ∀ i, i < ma → A i = ((la i : Nat) : Int) ∧ la i < n) (hB : ∀ j, j < mb → B j = ((lb j : Nat) : Int) ∧ lb j < n) (hi : i < ma) (hs : s < 2 ^ mb) (hj : j < mb) : Cx 3 (0, 0) yX10_joinBy cX10_joinBy 5 (some .int) [zR 64, zI ((i : Nat) : Int), zI ((s : Nat) : Int), zI ((j : Nat) : Int)] nx h (Rt (zI (fJ (XJ q st la lb) (fun t => J (4096 * (i + 1) + t)) i s j)) nx []) := by
  refine cx_of pnX10_joinBy (Nat.le_of_ble_eq_true rfl) ?_
  intro K G hr hnm hR
  obtain ⟨h64, h65, h66, h67, h68, h69, h70, h71, h72, h73⟩ := id hQ
  have hn40 := hO.1
  obtain ⟨hN0, hN1, hN2, hN3, hN4⟩ := id hN
  obtain ⟨h74, h75, h76⟩ := id hJ
  have hAi := hA i hi
  have hBj := hB j hj
  have hpj : 2 ^ j < 4096 := Nat.lt_of_lt_of_le (Nat.pow_lt_pow_right (by decide) (show j < 12 by omega)) (by decide)
  have hpb : 2 ^ mb ≤ 4096 := Nat.le_trans (Nat.pow_le_pow_right (by decide) hb12) (by decide)
  have hp0 : 0 < 2 ^ mb := Nat.pow_pos (by decide)
  have hor : s ||| (2 ^ j) < 4096 := Nat.or_lt_two_pow (n := 12) (by show s < 4096; omega) (by show 2 ^ j < 4096; exact hpj)
  have hxb := XJ_b (q := q) (la := la) (lb := lb) hN i j
  have hdl : s / 2 ^ j ≤ s := Nat.div_le_self _ _
  show Wp K 5 (Mx K h (Rt (zI (fJ (XJ q st la lb) (fun t => J (4096 * (i + 1) + t)) i s j)) nx []) (0, 0)) (0, 0) 0 [(0, zR 64), (1, zI ((i : Nat) : Int)), (2, zI ((s : Nat) : Int)), (3, zI ((j : Nat) : Int))] [] (nx, h, [])
  refine wp_aload_n G 0 dX10_joinBy_0 rfl ?_
  refine wp_aload_n G 0 dX10_joinBy_1 rfl ?_
  refine wp_get G 10 cOk9 fX10_38 dX10_joinBy_2 h64 rfl ?_
  refine wp_iload_n G 1 dX10_joinBy_5 rfl ?_
  refine wp_iald (j := i) G dX10_joinBy_6 h74 rfl (by omega) (by decide) ?_
  rw [(hA i (by omega)).1]
  refine wp_aload_n G 0 dX10_joinBy_7 rfl ?_
  refine wp_get G 11 cOk9 fX10_41 dX10_joinBy_8 h64 rfl ?_
  refine wp_iload_n G 3 dX10_joinBy_11 rfl ?_
  refine wp_iald (j := j) G dX10_joinBy_12 h75 rfl (by omega) (by decide) ?_
  rw [(hB j (by omega)).1]
  refine wp_cVE (b := 64) (ci := 9) (as := [zI ((la i : Nat) : Int), zI ((lb j : Nat) : Int)]) (rest := []) (hp2 := (nx, h, [])) G mX10_missOf lX10_146 iX10_missOf eX10_missOf ⟨_, rfl, rfl⟩ dX10_joinBy_13 h64 rfl rfl (Nat.le_of_ble_eq_true rfl) (rmx_ok hR (by decide) (by decide) (by decide) (by decide)) (t_X10_missOf (nx := nx) (i := (la i)) (j := (lb j)) hQ hO hN hAi.2 hBj.2) rfl ?_
  refine wp_istore (lv' := [(4, zI (msZ q st (la i) (lb j))), (0, zR 64), (1, zI ((i : Nat) : Int)), (2, zI ((s : Nat) : Int)), (3, zI ((j : Nat) : Int))]) G dX10_joinBy_16 (by decide) rfl ?_
  have hxe : XJ q st la lb i j = msZ q st (la i) (lb j) := rfl
  refine wp_iload G 0 dX10_joinBy_18 rfl ?_
  refine wp_if_lt G dX10_joinBy_20 (by omega) (fun kq1 => ?_) (fun kq1 => ?_)
  · skip
    refine wp_iconst G dX10_joinBy_32 ?_
    refine wp_goto G dX10_joinBy_33 ?_
    exact wp_ireturn G hr dX10_joinBy_61 ⟨by unfold fJ; first | (rw [if_pos (Or.inl (by omega))]; done) | (rw [if_pos (Or.inr (by omega))]; done) | (rw [if_neg (by omega), hxe]), rfl, by rfl⟩
  · skip
    refine wp_iload_n G 3 dX10_joinBy_23 rfl ?_
    refine wp_iload_n G 4 dX10_joinBy_24 rfl ?_
    refine wp_ishr (a := s) (k := j) G rfl rfl (by omega) (by omega) dX10_joinBy_25 ?_
    refine wp_iconst G dX10_joinBy_26 ?_
    refine wp_iand1 (a := s / 2 ^ j) G rfl (by omega) dX10_joinBy_27 ?_
    refine wp_iconst G dX10_joinBy_28 ?_
    refine wp_icmp_ne G dX10_joinBy_29 (by omega) (by omega) (fun kq2 => ?_) (fun kq2 => ?_)
    · skip
      refine wp_sipush G dX10_joinBy_36 (by decide) ?_
      refine wp_iload G 0 dX10_joinBy_39 rfl ?_
      refine wp_isub G dX10_joinBy_41 ?_
      refine wp_aload_n G 1 dX10_joinBy_42 rfl ?_
      refine wp_get G 14 cOk9 fX10_45 dX10_joinBy_43 h64 rfl ?_
      refine wp_sipush G dX10_joinBy_46 (by decide) ?_
      refine wp_iload_n G 2 dX10_joinBy_49 rfl ?_
      refine wp_iconst G dX10_joinBy_50 ?_
      refine wp_iadd G dX10_joinBy_51 ?_
      refine wp_imul G dX10_joinBy_52 ?_
      refine wp_iload_n G 3 dX10_joinBy_53 rfl ?_
      refine wp_iconst G dX10_joinBy_54 ?_
      refine wp_iload_n G 4 dX10_joinBy_55 rfl ?_
      refine wp_ishl1 (k := j) G rfl (by omega) dX10_joinBy_56 ?_
      refine wp_ior (a := s) (b := 2 ^ j) G rfl rfl (by omega) (by omega) dX10_joinBy_57 ?_
      refine wp_iadd G dX10_joinBy_58 ?_
      refine wp_iald (j := 4096 * (i + 1) + (s ||| (2 ^ j))) G dX10_joinBy_59 h76 (by omega) (by omega) (by decide) ?_
      refine wp_iadd G dX10_joinBy_60 ?_
      exact wp_ireturn G hr dX10_joinBy_61 ⟨by unfold fJ; first | (rw [if_pos (Or.inl (by omega))]; done) | (rw [if_pos (Or.inr (by omega))]; done) | (rw [if_neg (by omega), hxe]), rfl, by rfl⟩
    · skip
      refine wp_iconst G dX10_joinBy_32 ?_
      refine wp_goto G dX10_joinBy_33 ?_
      exact wp_ireturn G hr dX10_joinBy_61 ⟨by unfold fJ; first | (rw [if_pos (Or.inl (by omega))]; done) | (rw [if_pos (Or.inr (by omega))]; done) | (rw [if_neg (by omega), hxe]), rfl, by rfl⟩

set_option maxRecDepth 100000 in
set_option maxHeartbeats 4000000 in
theorem t_X10_findJoins {nx : Nat} {h : Nat → Option PC} {n : Nat} {q : Nat → Nat → Int} {o : Nat → Nat} {fc : Nat} {hn : Nat} {ln : Nat} {ma : Nat} {mb : Nat} {st : Nat → Int} {A : Nat → Int} {B : Nat → Int} {J : Nat → Int} {la : Nat → Nat} {lb : Nat → Nat} (hQ : isM h n q o fc hn ln ((ma : Nat) : Int) ((mb : Nat) : Int) st) (hO : okQ n q o) (hN : okN st) (hJ : isMj h A B J) (ha12 : ma ≤ 12) (hb12 : mb ≤ 12) (hA : ∀ i, i < ma → A i = ((la i : Nat) : Int) ∧ la i < n) (hB : ∀ j, j < mb → B j = ((lb j : Nat) : Int) ∧ lb j < n) : Cx 4 (0, 0) yX10_findJoins cX10_findJoins 6 none [zR 64] nx h (fun rr nx' l' => ∃ (R : Nat → Int), (∀ e, 0 ≤ e → e ≤ ma → ∀ t, t < 2 ^ mb → R (4096 * e + t) = bj (XJ q st la lb) ma mb (ma - e) t) ∧ rr = none ∧ nx' = nx ∧ l' = [(76, oA 0 53248 R)]) := by
  refine cx_of pnX10_findJoins (Nat.le_of_ble_eq_true rfl) ?_
  intro K G hr hnm hR
  obtain ⟨h64, h65, h66, h67, h68, h69, h70, h71, h72, h73⟩ := id hQ
  have hn40 := hO.1
  obtain ⟨hN0, hN1, hN2, hN3, hN4⟩ := id hN
  obtain ⟨h74, h75, h76⟩ := id hJ
  have hpb : 2 ^ mb ≤ 4096 := Nat.le_trans (Nat.pow_le_pow_right (by decide) hb12) (by decide)
  have hp0 : 0 < 2 ^ mb := Nat.pow_pos (by decide)
  have hXb := fun i j => (XJ_b (q := q) (la := la) (lb := lb) hN i j).2
  show Wp K 6 (Mx K h (fun rr nx' l' => ∃ (R : Nat → Int), (∀ e, 0 ≤ e → e ≤ ma → ∀ t, t < 2 ^ mb → R (4096 * e + t) = bj (XJ q st la lb) ma mb (ma - e) t) ∧ rr = none ∧ nx' = nx ∧ l' = [(76, oA 0 53248 R)]) (0, 0)) (0, 0) 0 [(0, zR 64)] [] (nx, h, [])
  refine wp_iconst G dX10_findJoins_0 ?_
  refine wp_istore_n (lv' := [(1, zI 0), (0, zR 64)]) G dX10_findJoins_1 (by decide) rfl ?_
  refine wp_own (r := 76) (hp2 := (nx, h, [(76, oA 0 53248 J)])) h76 rfl ?_
  refine wp_lv [1, 0] rfl ?_
  suffices lp2 : ∀ (fu : Nat) (k : Nat) (R : Nat → Int) (v1 : Int), 2 ^ mb - k < fu → (v1 = ((k : Nat) : Int)) → (k ≤ 2 ^ mb) → (∀ t, t < k → R (4096 * ma + t) = 0) → Wp K 6 (Mx K h (fun rr nx' l' => ∃ (R : Nat → Int), (∀ e, 0 ≤ e → e ≤ ma → ∀ t, t < 2 ^ mb → R (4096 * e + t) = bj (XJ q st la lb) ma mb (ma - e) t) ∧ rr = none ∧ nx' = nx ∧ l' = [(76, oA 0 53248 R)]) (0, 0)) (0, 0) 2 [(0, zR 64), (1, zI v1)] [] (nx, h, [(76, oA 0 53248 R)]) from lp2 _ 0 J 0 (Nat.lt_succ_self _) (by omega) (by omega) (by intro t ht; omega)
  intro fu
  induction fu with
  | zero => intro k R v1 hm; exact absurd hm (Nat.not_lt_zero _)
  | succ fu ih2 =>
    intro k R v1 hm2 e1 hi0 hR0
    subst e1
    refine wp_iload_n G 1 dX10_findJoins_2 rfl ?_
    refine wp_iconst G dX10_findJoins_3 ?_
    refine wp_aload_n G 0 dX10_findJoins_4 rfl ?_
    refine wp_get G 13 cOk9 fX10_150 dX10_findJoins_5 h64 rfl ?_
    refine wp_ishl1 (k := mb) G rfl (by omega) dX10_findJoins_8 ?_
    refine wp_icmp_ge G dX10_findJoins_9 (by omega) (by omega) (fun kq1 => ?_) (fun kq1 => ?_)
    · skip
      refine wp_aload_n G 0 dX10_findJoins_34 rfl ?_
      refine wp_get G 12 cOk9 fX10_153 dX10_findJoins_35 h64 rfl ?_
      refine wp_iconst G dX10_findJoins_38 ?_
      refine wp_isub G dX10_findJoins_39 ?_
      refine wp_istore_n (lv' := [(1, zI (((ma : Nat) : Int) - 1)), (0, zR 64)]) G dX10_findJoins_40 (by decide) rfl ?_
      refine wp_lv [1, 0] rfl ?_
      suffices lp41 : ∀ (fu : Nat) (i : Nat) (R : Nat → Int) (v1 : Int), i < fu → (v1 = (((i : Nat) : Int) - 1)) → (i ≤ ma) → (∀ e, i ≤ e → e ≤ ma → ∀ t, t < 2 ^ mb → R (4096 * e + t) = bj (XJ q st la lb) ma mb (ma - e) t) → Wp K 6 (Mx K h (fun rr nx' l' => ∃ (R : Nat → Int), (∀ e, 0 ≤ e → e ≤ ma → ∀ t, t < 2 ^ mb → R (4096 * e + t) = bj (XJ q st la lb) ma mb (ma - e) t) ∧ rr = none ∧ nx' = nx ∧ l' = [(76, oA 0 53248 R)]) (0, 0)) (0, 0) 41 [(0, zR 64), (1, zI v1)] [] (nx, h, [(76, oA 0 53248 R)]) from lp41 _ ma R (((ma : Nat) : Int) - 1) (Nat.lt_succ_self _) (by omega) (by omega) (by intro e he1 he2 t ht; rw [show e = ma by omega, Nat.sub_self]; exact hR0 t (by omega))
      intro fu
      induction fu with
      | zero => intro i R v1 hm; exact absurd hm (Nat.not_lt_zero _)
      | succ fu ih41 =>
        intro i R v1 hm41 e1 hi0 hRj
        subst e1
        refine wp_iload_n G 1 dX10_findJoins_41 rfl ?_
        refine wp_if_lt G dX10_findJoins_42 (by omega) (fun kq2 => ?_) (fun kq2 => ?_)
        · skip
          exact wp_vreturn G hr dX10_findJoins_138 ⟨R, by intro e he; exact hRj e (by omega), rfl, rfl, by rfl⟩
        · skip
          obtain ⟨c, rfl⟩ : ∃ c, i = c + 1 := ⟨i - 1, by omega⟩
          refine wp_iconst G dX10_findJoins_45 ?_
          rw [show ((((c + 1) : Nat) : Int) - 1) = ((c : Nat) : Int) by omega]
          refine wp_istore_n (lv' := [(2, zI 0), (0, zR 64), (1, zI ((c : Nat) : Int))]) G dX10_findJoins_46 (by decide) rfl ?_
          refine wp_lv [1, 2, 0] rfl ?_
          suffices lp47 : ∀ (fu : Nat) (s : Nat) (R : Nat → Int) (v2 : Int), 2 ^ mb - s < fu → (v2 = ((s : Nat) : Int)) → (s ≤ 2 ^ mb) → (∀ e, c + 1 ≤ e → e ≤ ma → ∀ t, t < 2 ^ mb → R (4096 * e + t) = bj (XJ q st la lb) ma mb (ma - e) t) → (∀ t, t < s → R (4096 * c + t) = bj (XJ q st la lb) ma mb (ma - c) t) → Wp K 6 (Mx K h (fun rr nx' l' => ∃ (R : Nat → Int), (∀ e, 0 ≤ e → e ≤ ma → ∀ t, t < 2 ^ mb → R (4096 * e + t) = bj (XJ q st la lb) ma mb (ma - e) t) ∧ rr = none ∧ nx' = nx ∧ l' = [(76, oA 0 53248 R)]) (0, 0)) (0, 0) 47 [(0, zR 64), (1, zI ((c : Nat) : Int)), (2, zI v2)] [] (nx, h, [(76, oA 0 53248 R)]) from lp47 _ 0 R 0 (Nat.lt_succ_self _) (by omega) (by omega) (by exact hRj) (by intro t ht; omega)
          intro fu
          induction fu with
          | zero => intro s R v2 hm; exact absurd hm (Nat.not_lt_zero _)
          | succ fu ih47 =>
            intro s R v2 hm47 e2 hi0 hK hS
            subst e2
            refine wp_iload_n G 2 dX10_findJoins_47 rfl ?_
            refine wp_iconst G dX10_findJoins_48 ?_
            refine wp_aload_n G 0 dX10_findJoins_49 rfl ?_
            refine wp_get G 13 cOk9 fX10_150 dX10_findJoins_50 h64 rfl ?_
            refine wp_ishl1 (k := mb) G rfl (by omega) dX10_findJoins_53 ?_
            refine wp_icmp_ge G dX10_findJoins_54 (by omega) (by omega) (fun kq3 => ?_) (fun kq3 => ?_)
            · skip
              refine wp_iinc (lv' := [(1, zI (((c : Nat) : Int) + (-1))), (0, zR 64), (2, zI ((s : Nat) : Int))]) G 1 dX10_findJoins_132 rfl (by decide) rfl ?_
              refine wp_goto G dX10_findJoins_135 ?_
              refine wp_lv [1, 0] rfl ?_
              exact ih41 c R (((c : Nat) : Int) + (-1)) (by omega) (by omega) (by omega) (by intro e he1 he2 t ht; rcases Nat.eq_or_lt_of_le he1 with z | z; (subst z; exact hS t (by omega)); exact hK e z he2 t ht)
            · skip
              refine wp_aload_n G 0 dX10_findJoins_57 rfl ?_
              refine wp_get G 14 cOk9 fX10_45 dX10_findJoins_58 h64 rfl ?_
              refine wp_sipush G dX10_findJoins_61 (by decide) ?_
              refine wp_iload_n G 1 dX10_findJoins_64 rfl ?_
              refine wp_iconst G dX10_findJoins_65 ?_
              refine wp_iadd G dX10_findJoins_66 ?_
              refine wp_imul G dX10_findJoins_67 ?_
              refine wp_iload_n G 2 dX10_findJoins_68 rfl ?_
              refine wp_iadd G dX10_findJoins_69 ?_
              refine wp_iald (j := 4096 * (c + 1) + s) G dX10_findJoins_70 rfl (by omega) (by omega) (by decide) ?_
              refine wp_istore_n (lv' := [(3, zI (R (4096 * (c + 1) + s))), (0, zR 64), (1, zI ((c : Nat) : Int)), (2, zI ((s : Nat) : Int))]) G dX10_findJoins_71 (by decide) rfl ?_
              refine wp_iconst G dX10_findJoins_72 ?_
              refine wp_istore (lv' := [(4, zI 0), (3, zI (R (4096 * (c + 1) + s))), (0, zR 64), (1, zI ((c : Nat) : Int)), (2, zI ((s : Nat) : Int))]) G dX10_findJoins_73 (by decide) rfl ?_
              refine wp_lv [2, 3, 4, 1, 0] rfl ?_
              suffices lp75 : ∀ (fu : Nat) (j : Nat) (v3 : Int) (v4 : Int), mb - j < fu → (v3 = jmx (fJ (XJ q st la lb) (bj (XJ q st la lb) ma mb (ma - (c + 1))) c s) (bj (XJ q st la lb) ma mb (ma - (c + 1)) s) j) → (v4 = ((j : Nat) : Int)) → (j ≤ mb) → Wp K 6 (Mx K h (fun rr nx' l' => ∃ (R : Nat → Int), (∀ e, 0 ≤ e → e ≤ ma → ∀ t, t < 2 ^ mb → R (4096 * e + t) = bj (XJ q st la lb) ma mb (ma - e) t) ∧ rr = none ∧ nx' = nx ∧ l' = [(76, oA 0 53248 R)]) (0, 0)) (0, 0) 75 [(0, zR 64), (1, zI ((c : Nat) : Int)), (2, zI ((s : Nat) : Int)), (3, zI v3), (4, zI v4)] [] (nx, h, [(76, oA 0 53248 R)]) from lp75 _ 0 (R (4096 * (c + 1) + s)) 0 (Nat.lt_succ_self _) (by exact hK (c + 1) (Nat.le_refl _) (by omega) s (by omega)) (by omega) (by omega)
              intro fu
              induction fu with
              | zero => intro j v3 v4 hm; exact absurd hm (Nat.not_lt_zero _)
              | succ fu ih75 =>
                intro j v3 v4 hm75 e3 e4 hi0
                subst e3
                subst e4
                have hbb := bj_b (ma := ma) (mb := mb) hXb (ma - (c + 1)) s
                have hjb := jm_b (mb := mb) hXb (bj_b (ma := ma) (mb := mb) hXb (ma - (c + 1))) c s j
                have hfb := fJ_b hXb (bj_b (ma := ma) (mb := mb) hXb (ma - (c + 1))) c s j
                refine wp_iload G 4 dX10_findJoins_75 rfl ?_
                refine wp_aload_n G 0 dX10_findJoins_77 rfl ?_
                refine wp_get G 13 cOk9 fX10_150 dX10_findJoins_78 h64 rfl ?_
                refine wp_icmp_ge G dX10_findJoins_81 (by omega) (by omega) (fun kq4 => ?_) (fun kq4 => ?_)
                · skip
                  refine wp_aload_n G 0 dX10_findJoins_113 rfl ?_
                  refine wp_get G 14 cOk9 fX10_45 dX10_findJoins_114 h64 rfl ?_
                  refine wp_sipush G dX10_findJoins_117 (by decide) ?_
                  refine wp_iload_n G 1 dX10_findJoins_120 rfl ?_
                  refine wp_imul G dX10_findJoins_121 ?_
                  refine wp_iload_n G 2 dX10_findJoins_122 rfl ?_
                  refine wp_iadd G dX10_findJoins_123 ?_
                  refine wp_iload_n G 3 dX10_findJoins_124 rfl ?_
                  refine wp_iastE (j := 4096 * c + s) (hp2 := (nx, h, [(76, oA 0 53248 (fup R (4096 * c + s) (jmx (fJ (XJ q st la lb) (bj (XJ q st la lb) ma mb (ma - (c + 1))) c s) (bj (XJ q st la lb) ma mb (ma - (c + 1)) s) j)))])) G dX10_findJoins_125 rfl (by omega) (by omega) (by decide) rfl ?_
                  refine wp_iinc (lv' := [(2, zI (((s : Nat) : Int) + 1)), (0, zR 64), (1, zI ((c : Nat) : Int)), (3, zI (jmx (fJ (XJ q st la lb) (bj (XJ q st la lb) ma mb (ma - (c + 1))) c s) (bj (XJ q st la lb) ma mb (ma - (c + 1)) s) j)), (4, zI ((j : Nat) : Int))]) G 2 dX10_findJoins_126 rfl (by decide) rfl ?_
                  refine wp_goto G dX10_findJoins_129 ?_
                  refine wp_lv [1, 2, 0] rfl ?_
                  exact ih47 (s + 1) (fup R (4096 * c + s) (jmx (fJ (XJ q st la lb) (bj (XJ q st la lb) ma mb (ma - (c + 1))) c s) (bj (XJ q st la lb) ma mb (ma - (c + 1)) s) j)) (((s : Nat) : Int) + 1) (by omega) (by omega) (by omega) (by exact k_put hpb (by omega) hK) (by exact s_put hS (by rw [show j = mb by omega]; exact (bj_s (by omega)).symm))
                · skip
                  refine wp_aload_n G 0 dX10_findJoins_84 rfl ?_
                  refine wp_iload_n G 1 dX10_findJoins_85 rfl ?_
                  refine wp_iload_n G 2 dX10_findJoins_86 rfl ?_
                  refine wp_iload G 4 dX10_findJoins_87 rfl ?_
                  refine wp_cVE (b := 64) (ci := 9) (as := [zI ((c : Nat) : Int), zI ((s : Nat) : Int), zI ((j : Nat) : Int)]) (rest := []) (hp2 := (nx, h, [(76, oA 0 53248 R)])) G mX10_joinBy lX10_156 iX10_joinBy eX10_joinBy ⟨_, rfl, rfl⟩ dX10_findJoins_89 h64 rfl rfl (Nat.le_of_ble_eq_true rfl) (rmx_ok hR (by decide) (by decide) (by decide) (by decide)) (t_X10_joinBy (nx := nx) (i := c) (s := s) (j := j) hQ hO hN ⟨h74, h75, rfl⟩ ha12 hb12 (by omega) hB (by omega) (by omega) (by omega)) rfl ?_
                  rw [fJ_e (b := bj (XJ q st la lb) ma mb (ma - (c + 1))) (fun t ht => hK (c + 1) (Nat.le_refl _) (by omega) t (by omega)) (or_lt (by omega) (by omega))]
                  refine wp_istore (lv' := [(5, zI (fJ (XJ q st la lb) (bj (XJ q st la lb) ma mb (ma - (c + 1))) c s j)), (0, zR 64), (1, zI ((c : Nat) : Int)), (2, zI ((s : Nat) : Int)), (3, zI (jmx (fJ (XJ q st la lb) (bj (XJ q st la lb) ma mb (ma - (c + 1))) c s) (bj (XJ q st la lb) ma mb (ma - (c + 1)) s) j)), (4, zI ((j : Nat) : Int))]) G dX10_findJoins_92 (by decide) rfl ?_
                  refine wp_iload G 0 dX10_findJoins_94 rfl ?_
                  refine wp_iload_n G 4 dX10_findJoins_96 rfl ?_
                  refine wp_icmp_le G dX10_findJoins_97 (by omega) (by omega) (fun kq5 => ?_) (fun kq5 => ?_)
                  · skip
                    refine wp_iload_n G 4 dX10_findJoins_105 rfl ?_
                    refine wp_istore_n (lv' := [(3, zI (jmx (fJ (XJ q st la lb) (bj (XJ q st la lb) ma mb (ma - (c + 1))) c s) (bj (XJ q st la lb) ma mb (ma - (c + 1)) s) j)), (5, zI (fJ (XJ q st la lb) (bj (XJ q st la lb) ma mb (ma - (c + 1))) c s j)), (0, zR 64), (1, zI ((c : Nat) : Int)), (2, zI ((s : Nat) : Int)), (4, zI ((j : Nat) : Int))]) G dX10_findJoins_106 (by decide) rfl ?_
                    refine wp_iinc (lv' := [(4, zI (((j : Nat) : Int) + 1)), (3, zI (jmx (fJ (XJ q st la lb) (bj (XJ q st la lb) ma mb (ma - (c + 1))) c s) (bj (XJ q st la lb) ma mb (ma - (c + 1)) s) j)), (5, zI (fJ (XJ q st la lb) (bj (XJ q st la lb) ma mb (ma - (c + 1))) c s j)), (0, zR 64), (1, zI ((c : Nat) : Int)), (2, zI ((s : Nat) : Int))]) G 5 dX10_findJoins_107 rfl (by decide) rfl ?_
                    refine wp_goto G dX10_findJoins_110 ?_
                    refine wp_lv [3, 4, 5, 1, 0] rfl ?_
                    exact ih75 (j + 1) (jmx (fJ (XJ q st la lb) (bj (XJ q st la lb) ma mb (ma - (c + 1))) c s) (bj (XJ q st la lb) ma mb (ma - (c + 1)) s) j) (((j : Nat) : Int) + 1) (by omega) (by rw [jmx]; first | (rw [Int.max_eq_right (by omega)]; done) | (rw [Int.max_eq_left (by omega)])) (by omega) (by omega)
                  · skip
                    refine wp_iload G 0 dX10_findJoins_100 rfl ?_
                    refine wp_goto G dX10_findJoins_102 ?_
                    refine wp_istore_n (lv' := [(3, zI (fJ (XJ q st la lb) (bj (XJ q st la lb) ma mb (ma - (c + 1))) c s j)), (5, zI (fJ (XJ q st la lb) (bj (XJ q st la lb) ma mb (ma - (c + 1))) c s j)), (0, zR 64), (1, zI ((c : Nat) : Int)), (2, zI ((s : Nat) : Int)), (4, zI ((j : Nat) : Int))]) G dX10_findJoins_106 (by decide) rfl ?_
                    refine wp_iinc (lv' := [(4, zI (((j : Nat) : Int) + 1)), (3, zI (fJ (XJ q st la lb) (bj (XJ q st la lb) ma mb (ma - (c + 1))) c s j)), (5, zI (fJ (XJ q st la lb) (bj (XJ q st la lb) ma mb (ma - (c + 1))) c s j)), (0, zR 64), (1, zI ((c : Nat) : Int)), (2, zI ((s : Nat) : Int))]) G 5 dX10_findJoins_107 rfl (by decide) rfl ?_
                    refine wp_goto G dX10_findJoins_110 ?_
                    refine wp_lv [3, 4, 5, 1, 0] rfl ?_
                    exact ih75 (j + 1) (fJ (XJ q st la lb) (bj (XJ q st la lb) ma mb (ma - (c + 1))) c s j) (((j : Nat) : Int) + 1) (by omega) (by rw [jmx]; first | (rw [Int.max_eq_right (by omega)]; done) | (rw [Int.max_eq_left (by omega)])) (by omega) (by omega)
    · skip
      refine wp_aload_n G 0 dX10_findJoins_12 rfl ?_
      refine wp_get G 14 cOk9 fX10_45 dX10_findJoins_13 h64 rfl ?_
      refine wp_sipush G dX10_findJoins_16 (by decide) ?_
      refine wp_aload_n G 0 dX10_findJoins_19 rfl ?_
      refine wp_get G 12 cOk9 fX10_153 dX10_findJoins_20 h64 rfl ?_
      refine wp_imul G dX10_findJoins_23 ?_
      refine wp_iload_n G 1 dX10_findJoins_24 rfl ?_
      refine wp_iadd G dX10_findJoins_25 ?_
      refine wp_iconst G dX10_findJoins_26 ?_
      refine wp_iastE (j := 4096 * ma + k) (hp2 := (nx, h, [(76, oA 0 53248 (fup R (4096 * ma + k) 0))])) G dX10_findJoins_27 rfl (by omega) (by omega) (by decide) rfl ?_
      refine wp_iinc (lv' := [(1, zI (((k : Nat) : Int) + 1)), (0, zR 64)]) G 1 dX10_findJoins_28 rfl (by decide) rfl ?_
      refine wp_goto G dX10_findJoins_31 ?_
      refine wp_lv [1, 0] rfl ?_
      exact ih2 (k + 1) (fup R (4096 * ma + k) 0) (((k : Nat) : Int) + 1) (by omega) (by omega) (by omega) (by exact z_put hR0)

