theorem z47_0 (su : Nat → Int) : su = fun w => if w < 0 then 0 else su w := by
  funext w
  rw [if_neg (Nat.not_lt_zero w)]
theorem z47_s (su : Nat → Int) (k : Nat) : fup (fun w => if w < k then 0 else su w) k 0 = fun w => if w < k + 1 then 0 else su w := by
  funext w
  by_cases e : w = k
  · subst e
    rw [fup_self, if_pos (Nat.lt_succ_self w)]
  · rw [fup_ne _ _ e]
    by_cases c : w < k
    · rw [if_pos c, if_pos (by omega)]
    · rw [if_neg c, if_neg (by omega)]
theorem tj_s {T M : Nat → Int} {dd : Nat} (h : ∀ j, j < 4000 → T j = if dd ≤ j then M j else 0) : ∀ j, j < 4000 → fup T dd 0 j = if dd + 1 ≤ j then M j else 0 := by
  intro j hj
  by_cases e : j = dd
  · subst e
    rw [fup_self, if_neg (by omega)]
  · rw [fup_ne _ _ e, h j hj]
    by_cases c : dd ≤ j
    · rw [if_pos c, if_pos (by omega)]
    · rw [if_neg c, if_neg (by omega)]
theorem tj_k {T M : Nat → Int} {dd : Nat} (h : ∀ j, j < 4000 → T j = if dd ≤ j then M j else 0) (h0 : T dd = 0) : ∀ j, j < 4000 → T j = if dd + 1 ≤ j then M j else 0 := by
  intro j hj
  by_cases e : j = dd
  · subst e
    rw [h0, if_neg (by omega)]
  · rw [h j hj]
    by_cases c : dd ≤ j
    · rw [if_pos c, if_pos (by omega)]
    · rw [if_neg c, if_neg (by omega)]
theorem cn_s {F G D : Int → Int} {s dd : Nat} (hs : s < dd) (h : ∀ t : Nat, s ≤ t → t < dd → F ((t : Nat) : Int) = F ((s : Nat) : Int) ∧ G ((t : Nat) : Int) = G ((s : Nat) : Int) ∧ D ((t : Nat) : Int) = D ((s : Nat) : Int)) (h2 : F ((dd : Nat) : Int) = F (((dd : Nat) : Int) - 1) ∧ G ((dd : Nat) : Int) = G (((dd : Nat) : Int) - 1) ∧ D ((dd : Nat) : Int) = D (((dd : Nat) : Int) - 1)) : ∀ t : Nat, s ≤ t → t < dd + 1 → F ((t : Nat) : Int) = F ((s : Nat) : Int) ∧ G ((t : Nat) : Int) = G ((s : Nat) : Int) ∧ D ((t : Nat) : Int) = D ((s : Nat) : Int) := by
  intro t h1 h3
  by_cases e : t = dd
  · subst e
    have h4 := h (t - 1) (by omega) (by omega)
    rw [show ((t - 1 : Nat) : Int) = ((t : Nat) : Int) - 1 by omega] at h4
    exact ⟨h2.1.trans h4.1, h2.2.1.trans h4.2.1, h2.2.2.trans h4.2.2⟩
  · exact h t h1 (by omega)
theorem as_0 (su : Nat → Int) (t : Int) (f : Nat → Int) : su = fun w => if w < 0 then su w + t * f w * f w else su w := by
  funext w
  rw [if_neg (Nat.not_lt_zero w)]
theorem as_s (su : Nat → Int) (t : Int) (f : Nat → Int) (i : Nat) : fup (fun w => if w < i then su w + t * f w * f w else su w) i ((if i < i then su i + t * f i * f i else su i) + t * f i * f i) = fun w => if w < i + 1 then su w + t * f w * f w else su w := by
  funext w
  by_cases e : w = i
  · subst e
    rw [fup_self, if_neg (Nat.lt_irrefl w), if_pos (Nat.lt_succ_self w)]
  · rw [fup_ne _ _ e]
    by_cases c : w < i
    · rw [if_pos c, if_pos (by omega)]
    · rw [if_neg c, if_neg (by omega)]

set_option maxRecDepth 100000 in
set_option maxHeartbeats 4000000 in
theorem t_X7_mark {nx : Nat} {h : Nat → Option PC} {tu : Nat → Int} {su : Nat → Int} {d : Int} {a : Int} {b : Int} (h45 : h 45 = some (oO 6 [zR 46, zR 47])) (h46 : h 46 = some (oA 1 4000 tu)) (h47 : h 47 = some (oL 2 11 su)) (rd : r32 d) (ha : 0 ≤ a ∧ a ≤ 3999) (hb : 0 ≤ b ∧ b ≤ 3999) : Cx 0 (0, 0) yX7_mark cX7_mark 4 none [zR 45, zI d, zI a, zI b] nx h (Rn nx [(46, oA 1 4000 (mkF tu d a b))]) := by
  refine cx_of pnX7_mark (Nat.le_of_ble_eq_true rfl) ?_
  intro K G hr hnm hR
  show Wp K 4 (Mx K h (Rn nx [(46, oA 1 4000 (mkF tu d a b))]) (0, 0)) (0, 0) 0 [(0, zR 45), (1, zI d), (2, zI a), (3, zI b)] [] (nx, h, [])
  refine wp_own (r := 46) (hp2 := (nx, h, [(46, oA 1 4000 tu)])) h46 rfl ?_
  refine wp_iload_n G 1 dX7_mark_0 rfl ?_
  refine wp_iload_n G 2 dX7_mark_1 rfl ?_
  refine wp_icmp_le G dX7_mark_2 (by omega) (by omega) (fun kq1 => ?_) (fun kq1 => ?_)
  · skip
    exact wp_vreturn G hr dX7_mark_17 ⟨rfl, rfl, by first | (rw [mkF_y ⟨by omega, by omega⟩]; done) | (rw [mkF_n (by omega)])⟩
  · skip
    refine wp_iload_n G 1 dX7_mark_5 rfl ?_
    refine wp_iload_n G 3 dX7_mark_6 rfl ?_
    refine wp_icmp_gt G dX7_mark_7 (by omega) (by omega) (fun kq2 => ?_) (fun kq2 => ?_)
    · skip
      exact wp_vreturn G hr dX7_mark_17 ⟨rfl, rfl, by first | (rw [mkF_y ⟨by omega, by omega⟩]; done) | (rw [mkF_n (by omega)])⟩
    · skip
      refine wp_aload_n G 0 dX7_mark_10 rfl ?_
      refine wp_get G 0 cOk6 fX7_9 dX7_mark_11 h45 rfl ?_
      refine wp_iload_n G 1 dX7_mark_14 rfl ?_
      refine wp_iconst G dX7_mark_15 ?_
      refine wp_zastE (j := (d).toNat) (hp2 := (nx, h, [(46, oA 1 4000 (fup tu ((d).toNat) 1))])) G (by omega) dX7_mark_16 rfl (by omega) (by omega) (by decide) rfl ?_
      exact wp_vreturn G hr dX7_mark_17 ⟨rfl, rfl, by first | (rw [mkF_y ⟨by omega, by omega⟩]; done) | (rw [mkF_n (by omega)])⟩

set_option maxRecDepth 100000 in
set_option maxHeartbeats 4000000 in
theorem t_X7_markStrikes {nx : Nat} {h : Nat → Option PC} {n : Nat} {q : Nat → Nat → Int} {o : Nat → Nat} {tu : Nat → Int} {su : Nat → Int} {m : Int} {a : Int} {b : Int} (hQ : isQ h n q o) (hO : okQ n q o) (h45 : h 45 = some (oO 6 [zR 46, zR 47])) (h46 : h 46 = some (oA 1 4000 tu)) (h47 : h 47 = some (oL 2 11 su)) (ri_m : r32 m) (ha : 0 ≤ a ∧ a ≤ 3999) (hb : 0 ≤ b ∧ b ≤ 3999) : Cx 1 (0, 0) yX7_markStrikes cX7_markStrikes 6 none [zR 45, zR 2, zI m, zI a, zI b] nx h (Rn nx [(46, oA 1 4000 (msF q m a b tu n))]) := by
  refine cx_of pnX7_markStrikes (Nat.le_of_ble_eq_true rfl) ?_
  intro K G hr hnm hR
  obtain ⟨h2, h3, h4, h5, h6, h7, h8, h9, h10⟩ := id hQ
  have hn40 := hO.1
  show Wp K 6 (Mx K h (Rn nx [(46, oA 1 4000 (msF q m a b tu n))]) (0, 0)) (0, 0) 0 [(0, zR 45), (1, zR 2), (2, zI m), (3, zI a), (4, zI b)] [] (nx, h, [])
  refine wp_iconst G dX7_markStrikes_0 ?_
  refine wp_istore (lv' := [(5, zI 0), (0, zR 45), (1, zR 2), (2, zI m), (3, zI a), (4, zI b)]) G dX7_markStrikes_1 (by decide) rfl ?_
  refine wp_own (r := 46) (hp2 := (nx, h, [(46, oA 1 4000 tu)])) h46 rfl ?_
  refine wp_lv [1, 2, 3, 4, 5, 0] rfl ?_
  suffices lp3 : ∀ (fu : Nat) (k : Nat) (v5 : Int) (A46 : Nat → Int), n - k < fu → (v5 = ((k : Nat) : Int)) → (A46 = msF q m a b tu k) → (k ≤ n) → Wp K 6 (Mx K h (Rn nx [(46, oA 1 4000 (msF q m a b tu n))]) (0, 0)) (0, 0) 3 [(0, zR 45), (1, zR 2), (2, zI m), (3, zI a), (4, zI b), (5, zI v5)] [] (nx, h, [(46, oA 1 4000 A46)]) from lp3 _ 0 0 tu (Nat.lt_succ_self _) (by omega) (by rfl) (by omega)
  intro fu
  induction fu with
  | zero => intro k v5 A46 hm; exact absurd hm (Nat.not_lt_zero _)
  | succ fu ih3 =>
    intro k v5 A46 hm3 e5 eA46 hi0
    subst e5
    subst eA46
    refine wp_iload G 5 dX7_markStrikes_3 rfl ?_
    refine wp_aload_n G 1 dX7_markStrikes_5 rfl ?_
    refine wp_get G 0 cOk5 fX7_31 dX7_markStrikes_6 h2 rfl ?_
    refine wp_icmp_ge G dX7_markStrikes_9 (by omega) (by omega) (fun kq1 => ?_) (fun kq1 => ?_)
    · skip
      exact wp_vreturn G hr dX7_markStrikes_58 ⟨rfl, rfl, by rw [show k = n by omega]⟩
    · skip
      refine wp_aload_n G 1 dX7_markStrikes_12 rfl ?_
      refine wp_iload G 5 dX7_markStrikes_13 rfl ?_
      refine wp_iload_n G 2 dX7_markStrikes_15 rfl ?_
      refine wp_cVE (b := 2) (ci := 5) (as := [zI ((k : Nat) : Int), zI m]) (rest := []) (hp2 := (nx, h, [(46, oA 1 4000 (msF q m a b tu k))])) G mX6_isGreat lX7_37 iX6_isGreat eX6_isGreat ⟨_, rfl, rfl⟩ dX7_markStrikes_16 h2 rfl rfl (Nat.le_of_ble_eq_true rfl) (rmx_ok hR (by decide) (by decide) (by decide) (by decide)) (t_X6_isGreat (nx := nx) (j := k) (m := m) hQ hO (by omega) ri_m) rfl ?_
      refine wp_ifeq_bt G dX7_markStrikes_19 (fun kq2 => ?_) (fun kq2 => ?_)
      · skip
        refine wp_iinc (lv' := [(5, zI (((k : Nat) : Int) + 1)), (0, zR 45), (1, zR 2), (2, zI m), (3, zI a), (4, zI b)]) G 5 dX7_markStrikes_52 rfl (by decide) rfl ?_
        refine wp_goto G dX7_markStrikes_55 ?_
        refine wp_lv [1, 2, 3, 4, 5, 0] rfl ?_
        exact ih3 (k + 1) (((k : Nat) : Int) + 1) (msF q m a b tu k) (by omega) (by omega) (by first | rw [msF_y (by assumption)] | rw [msF_n (by assumption)]) (by omega)
      · skip
        refine wp_aload_n G 0 dX7_markStrikes_22 rfl ?_
        refine wp_aload_n G 1 dX7_markStrikes_23 rfl ?_
        refine wp_get G 2 cOk5 fX7_41 dX7_markStrikes_24 h2 rfl ?_
        refine wp_iload G 5 dX7_markStrikes_27 rfl ?_
        refine wp_iald (j := k) G dX7_markStrikes_29 h4 rfl (by omega) (by decide) ?_
        have rrq1 := hO.d k (by omega)
        refine wp_iload_n G 3 dX7_markStrikes_30 rfl ?_
        refine wp_iload G 4 dX7_markStrikes_31 rfl ?_
        refine wp_cVN (b := 45) (ci := 6) (as := [zI ((q 1) k), zI a, zI b]) (rest := []) (hp2 := (nx, h, [(46, oA 1 4000 (mkF (msF q m a b tu k) ((q 1) k) a b))])) G mX7_mark lX7_45 iX7_mark eX7_mark ⟨_, rfl, rfl⟩ dX7_markStrikes_33 h45 rfl rfl (Nat.le_of_ble_eq_true rfl) (rmx_ok hR (by decide) (by decide) (by decide) (by decide)) (t_X7_mark (nx := nx) (d := ((q 1) k)) (a := a) (b := b) (tu := (msF q m a b tu k)) h45 rfl h47 (by omega) ha hb) rfl ?_
        refine wp_aload_n G 0 dX7_markStrikes_36 rfl ?_
        refine wp_aload_n G 1 dX7_markStrikes_37 rfl ?_
        refine wp_get G 2 cOk5 fX7_41 dX7_markStrikes_38 h2 rfl ?_
        refine wp_iload G 5 dX7_markStrikes_41 rfl ?_
        refine wp_iald (j := k) G dX7_markStrikes_43 h4 rfl (by omega) (by decide) ?_
        have rrq2 := hO.d k (by omega)
        refine wp_iconst G dX7_markStrikes_44 ?_
        refine wp_iadd G dX7_markStrikes_45 ?_
        refine wp_iload_n G 3 dX7_markStrikes_46 rfl ?_
        refine wp_iload G 4 dX7_markStrikes_47 rfl ?_
        refine wp_cVN (b := 45) (ci := 6) (as := [zI (((q 1) k) + 1), zI a, zI b]) (rest := []) (hp2 := (nx, h, [(46, oA 1 4000 (mkF (mkF (msF q m a b tu k) (q 1 k) a b) (((q 1) k) + 1) a b))])) G mX7_mark lX7_45 iX7_mark eX7_mark ⟨_, rfl, rfl⟩ dX7_markStrikes_49 h45 rfl rfl (Nat.le_of_ble_eq_true rfl) (rmx_ok hR (by decide) (by decide) (by decide) (by decide)) (t_X7_mark (nx := nx) (d := (((q 1) k) + 1)) (a := a) (b := b) (tu := (mkF (msF q m a b tu k) (q 1 k) a b)) h45 rfl h47 (by omega) ha hb) rfl ?_
        refine wp_iinc (lv' := [(5, zI (((k : Nat) : Int) + 1)), (0, zR 45), (1, zR 2), (2, zI m), (3, zI a), (4, zI b)]) G 5 dX7_markStrikes_52 rfl (by decide) rfl ?_
        refine wp_goto G dX7_markStrikes_55 ?_
        refine wp_lv [1, 2, 3, 4, 5, 0] rfl ?_
        exact ih3 (k + 1) (((k : Nat) : Int) + 1) (mkF (mkF (msF q m a b tu k) (q 1 k) a b) (((q 1) k) + 1) a b) (by omega) (by omega) (by first | rw [msF_y (by assumption)] | rw [msF_n (by assumption)]) (by omega)

set_option maxRecDepth 100000 in
set_option maxHeartbeats 4000000 in
theorem t_X7_markRules {nx : Nat} {h : Nat → Option PC} {n : Nat} {q : Nat → Nat → Int} {o : Nat → Nat} {tu : Nat → Int} {su : Nat → Int} {r : Nat} {ru : Nat} {la : Int} {dy : Nat → Int} {le : Nat → Int} {mo : Nat → Int} {ch : Nat → Int} {a : Int} {b : Int} (hQ : isQ h n q o) (hO : okQ n q o) (h45 : h 45 = some (oO 6 [zR 46, zR 47])) (h46 : h 46 = some (oA 1 4000 tu)) (h47 : h 47 = some (oL 2 11 su)) (h93 : 93 ≤ r) (hF : isF h r ru la dy le mo ch) (hK : okF ru la dy le mo ch) (ha : 0 ≤ a ∧ a ≤ 3999) (hb : 0 ≤ b ∧ b ≤ 3999) : Cx 1 (0, 0) yX7_markRules cX7_markRules 7 none [zR 45, zR 2, zR r, zI a, zI b] nx h (Rn nx [(46, oA 1 4000 (mrF q n a b dy le tu ru))]) := by
  refine cx_of pnX7_markRules (Nat.le_of_ble_eq_true rfl) ?_
  intro K G hr hnm hR
  obtain ⟨h2, h3, h4, h5, h6, h7, h8, h9, h10⟩ := id hQ
  have hn40 := hO.1
  obtain ⟨hr0, hr1, hr2, hr3, hr4⟩ := id hF
  have hru := hK.1
  have hla := hK.2.1
  show Wp K 7 (Mx K h (Rn nx [(46, oA 1 4000 (mrF q n a b dy le tu ru))]) (0, 0)) (0, 0) 0 [(0, zR 45), (1, zR 2), (2, zR r), (3, zI a), (4, zI b)] [] (nx, h, [])
  refine wp_iconst G dX7_markRules_0 ?_
  refine wp_istore (lv' := [(5, zI 0), (0, zR 45), (1, zR 2), (2, zR r), (3, zI a), (4, zI b)]) G dX7_markRules_1 (by decide) rfl ?_
  refine wp_own (r := 46) (hp2 := (nx, h, [(46, oA 1 4000 tu)])) h46 rfl ?_
  refine wp_lv [1, 2, 3, 4, 5, 0] rfl ?_
  suffices lp3 : ∀ (fu : Nat) (k : Nat) (v5 : Int) (A46 : Nat → Int), ru - k < fu → (v5 = ((k : Nat) : Int)) → (A46 = mrF q n a b dy le tu k) → (k ≤ ru) → Wp K 7 (Mx K h (Rn nx [(46, oA 1 4000 (mrF q n a b dy le tu ru))]) (0, 0)) (0, 0) 3 [(0, zR 45), (1, zR 2), (2, zR r), (3, zI a), (4, zI b), (5, zI v5)] [] (nx, h, [(46, oA 1 4000 A46)]) from lp3 _ 0 0 tu (Nat.lt_succ_self _) (by omega) (by rfl) (by omega)
  intro fu
  induction fu with
  | zero => intro k v5 A46 hm; exact absurd hm (Nat.not_lt_zero _)
  | succ fu ih3 =>
    intro k v5 A46 hm3 e5 eA46 hi0
    subst e5
    subst eA46
    refine wp_iload G 5 dX7_markRules_3 rfl ?_
    refine wp_aload_n G 2 dX7_markRules_5 rfl ?_
    refine wp_get G 0 cOk1 fX7_49 dX7_markRules_6 (lk_ge (by omega) rfl hr0) rfl ?_
    refine wp_icmp_ge G dX7_markRules_9 (by omega) (by omega) (fun kq1 => ?_) (fun kq1 => ?_)
    · skip
      exact wp_vreturn G hr dX7_markRules_92 ⟨rfl, rfl, by rw [show k = ru by omega]⟩
    · skip
      refine wp_iconst G dX7_markRules_12 ?_
      refine wp_istore (lv' := [(6, zI 0), (0, zR 45), (1, zR 2), (2, zR r), (3, zI a), (4, zI b), (5, zI ((k : Nat) : Int))]) G dX7_markRules_13 (by decide) rfl ?_
      refine wp_lv [1, 2, 3, 4, 5, 6, 0] rfl ?_
      suffices lp15 : ∀ (fu : Nat) (i : Nat) (v6 : Int) (A46 : Nat → Int), n - i < fu → (v6 = ((i : Nat) : Int)) → (A46 = mrI q a b (dy k) (le k) (mrF q n a b dy le tu k) i) → (i ≤ n) → Wp K 7 (Mx K h (Rn nx [(46, oA 1 4000 (mrF q n a b dy le tu ru))]) (0, 0)) (0, 0) 15 [(0, zR 45), (1, zR 2), (2, zR r), (3, zI a), (4, zI b), (5, zI ((k : Nat) : Int)), (6, zI v6)] [] (nx, h, [(46, oA 1 4000 A46)]) from lp15 _ 0 0 (mrF q n a b dy le tu k) (Nat.lt_succ_self _) (by omega) (by rfl) (by omega)
      intro fu
      induction fu with
      | zero => intro i v6 A46 hm; exact absurd hm (Nat.not_lt_zero _)
      | succ fu ih15 =>
        intro i v6 A46 hm15 e6 eA46 hi0
        subst e6
        subst eA46
        refine wp_iload G 6 dX7_markRules_15 rfl ?_
        refine wp_aload_n G 1 dX7_markRules_17 rfl ?_
        refine wp_get G 0 cOk5 fX7_31 dX7_markRules_18 h2 rfl ?_
        refine wp_icmp_ge G dX7_markRules_21 (by omega) (by omega) (fun kq2 => ?_) (fun kq2 => ?_)
        · skip
          refine wp_iinc (lv' := [(5, zI (((k : Nat) : Int) + 1)), (0, zR 45), (1, zR 2), (2, zR r), (3, zI a), (4, zI b), (6, zI ((i : Nat) : Int))]) G 5 dX7_markRules_86 rfl (by decide) rfl ?_
          refine wp_goto G dX7_markRules_89 ?_
          refine wp_lv [1, 2, 3, 4, 5, 0] rfl ?_
          exact ih3 (k + 1) (((k : Nat) : Int) + 1) (mrI q a b (dy k) (le k) (mrF q n a b dy le tu k) i) (by omega) (by omega) (by rw [show i = n by omega]; rfl) (by omega)
        · skip
          refine wp_aload_n G 1 dX7_markRules_24 rfl ?_
          refine wp_iload G 6 dX7_markRules_25 rfl ?_
          refine wp_aload_n G 2 dX7_markRules_27 rfl ?_
          refine wp_get G 3 cOk1 fX7_54 dX7_markRules_28 (lk_ge (by omega) rfl hr0) rfl ?_
          refine wp_iload G 5 dX7_markRules_31 rfl ?_
          refine wp_iald (j := k) G dX7_markRules_33 (lk_ge (by omega) rfl hr2) rfl (by omega) (by decide) ?_
          have rrq1 := hK.2.2.2.1 k (by omega)
          refine wp_cVE (b := 2) (ci := 5) (as := [zI ((i : Nat) : Int), zI (le k)]) (rest := []) (hp2 := (nx, h, [(46, oA 1 4000 (mrI q a b (dy k) (le k) (mrF q n a b dy le tu k) i))])) G mX6_isGreat lX7_37 iX6_isGreat eX6_isGreat ⟨_, rfl, rfl⟩ dX7_markRules_34 h2 rfl rfl (Nat.le_of_ble_eq_true rfl) (rmx_ok hR (by decide) (by decide) (by decide) (by decide)) (t_X6_isGreat (nx := nx) (j := i) (m := (le k)) hQ hO (by omega) (by omega)) rfl ?_
          refine wp_ifeq_bt G dX7_markRules_37 (fun kq3 => ?_) (fun kq3 => ?_)
          · skip
            refine wp_iinc (lv' := [(6, zI (((i : Nat) : Int) + 1)), (0, zR 45), (1, zR 2), (2, zR r), (3, zI a), (4, zI b), (5, zI ((k : Nat) : Int))]) G 6 dX7_markRules_80 rfl (by decide) rfl ?_
            refine wp_goto G dX7_markRules_83 ?_
            refine wp_lv [1, 2, 3, 4, 5, 6, 0] rfl ?_
            exact ih15 (i + 1) (((i : Nat) : Int) + 1) (mrI q a b (dy k) (le k) (mrF q n a b dy le tu k) i) (by omega) (by omega) (by first | rw [mrI_y (by assumption)] | rw [mrI_n (by assumption)]) (by omega)
          · skip
            refine wp_aload_n G 0 dX7_markRules_40 rfl ?_
            refine wp_aload_n G 1 dX7_markRules_41 rfl ?_
            refine wp_get G 6 cOk5 fX7_57 dX7_markRules_42 h2 rfl ?_
            refine wp_iload G 6 dX7_markRules_45 rfl ?_
            refine wp_iald (j := i) G dX7_markRules_47 h8 rfl (by omega) (by decide) ?_
            have rrq2 := hO.t i (by omega)
            refine wp_iconst G dX7_markRules_48 ?_
            refine wp_iadd G dX7_markRules_49 ?_
            refine wp_iload_n G 3 dX7_markRules_50 rfl ?_
            refine wp_iload G 4 dX7_markRules_51 rfl ?_
            refine wp_cVN (b := 45) (ci := 6) (as := [zI (((q 5) i) + 1), zI a, zI b]) (rest := []) (hp2 := (nx, h, [(46, oA 1 4000 (mkF (mrI q a b (dy k) (le k) (mrF q n a b dy le tu k) i) (((q 5) i) + 1) a b))])) G mX7_mark lX7_45 iX7_mark eX7_mark ⟨_, rfl, rfl⟩ dX7_markRules_53 h45 rfl rfl (Nat.le_of_ble_eq_true rfl) (rmx_ok hR (by decide) (by decide) (by decide) (by decide)) (t_X7_mark (nx := nx) (d := (((q 5) i) + 1)) (a := a) (b := b) (tu := (mrI q a b (dy k) (le k) (mrF q n a b dy le tu k) i)) h45 rfl h47 (by omega) ha hb) rfl ?_
            refine wp_aload_n G 0 dX7_markRules_56 rfl ?_
            refine wp_aload_n G 1 dX7_markRules_57 rfl ?_
            refine wp_get G 2 cOk5 fX7_41 dX7_markRules_58 h2 rfl ?_
            refine wp_iload G 6 dX7_markRules_61 rfl ?_
            refine wp_iald (j := i) G dX7_markRules_63 h4 rfl (by omega) (by decide) ?_
            have rrq3 := hO.d i (by omega)
            refine wp_aload_n G 2 dX7_markRules_64 rfl ?_
            refine wp_get G 2 cOk1 fX7_60 dX7_markRules_65 (lk_ge (by omega) rfl hr0) rfl ?_
            refine wp_iload G 5 dX7_markRules_68 rfl ?_
            refine wp_iald (j := k) G dX7_markRules_70 (lk_ge (by omega) rfl hr1) rfl (by omega) (by decide) ?_
            have rrq4 := hK.2.2.1 k (by omega)
            refine wp_iadd G dX7_markRules_71 ?_
            refine wp_iconst G dX7_markRules_72 ?_
            refine wp_iadd G dX7_markRules_73 ?_
            refine wp_iload_n G 3 dX7_markRules_74 rfl ?_
            refine wp_iload G 4 dX7_markRules_75 rfl ?_
            refine wp_cVN (b := 45) (ci := 6) (as := [zI ((((q 1) i) + (dy k)) + 1), zI a, zI b]) (rest := []) (hp2 := (nx, h, [(46, oA 1 4000 (mkF (mkF (mrI q a b (dy k) (le k) (mrF q n a b dy le tu k) i) (q 5 i + 1) a b) ((((q 1) i) + (dy k)) + 1) a b))])) G mX7_mark lX7_45 iX7_mark eX7_mark ⟨_, rfl, rfl⟩ dX7_markRules_77 h45 rfl rfl (Nat.le_of_ble_eq_true rfl) (rmx_ok hR (by decide) (by decide) (by decide) (by decide)) (t_X7_mark (nx := nx) (d := ((((q 1) i) + (dy k)) + 1)) (a := a) (b := b) (tu := (mkF (mrI q a b (dy k) (le k) (mrF q n a b dy le tu k) i) (q 5 i + 1) a b)) h45 rfl h47 (by omega) ha hb) rfl ?_
            refine wp_iinc (lv' := [(6, zI (((i : Nat) : Int) + 1)), (0, zR 45), (1, zR 2), (2, zR r), (3, zI a), (4, zI b), (5, zI ((k : Nat) : Int))]) G 6 dX7_markRules_80 rfl (by decide) rfl ?_
            refine wp_goto G dX7_markRules_83 ?_
            refine wp_lv [1, 2, 3, 4, 5, 6, 0] rfl ?_
            exact ih15 (i + 1) (((i : Nat) : Int) + 1) (mkF (mkF (mrI q a b (dy k) (le k) (mrF q n a b dy le tu k) i) (q 5 i + 1) a b) ((((q 1) i) + (dy k)) + 1) a b) (by omega) (by omega) (by first | rw [mrI_y (by assumption)] | rw [mrI_n (by assumption)]) (by omega)

set_option maxRecDepth 100000 in
set_option maxHeartbeats 4000000 in
theorem t_X7_leastMix {nx : Nat} {h : Nat → Option PC} {tu : Nat → Int} {su : Nat → Int} (h45 : h 45 = some (oO 6 [zR 46, zR 47])) (h46 : h 46 = some (oA 1 4000 tu)) (h47 : h 47 = some (oL 2 11 su)) (hsu : ∀ w, w < 11 → 0 ≤ su w ∧ su w ≤ 1000000000000) : Cx 0 (0, 0) yX7_leastMix cX7_leastMix 3 (some .int) [zR 45] nx h (Rt (zI ((lmF su 10 : Nat) : Int)) nx []) := by
  refine cx_of pnX7_leastMix (Nat.le_of_ble_eq_true rfl) ?_
  intro K G hr hnm hR
  show Wp K 3 (Mx K h (Rt (zI ((lmF su 10 : Nat) : Int)) nx []) (0, 0)) (0, 0) 0 [(0, zR 45)] [] (nx, h, [])
  refine wp_iconst G dX7_leastMix_0 ?_
  refine wp_istore_n (lv' := [(1, zI 0), (0, zR 45)]) G dX7_leastMix_1 (by decide) rfl ?_
  refine wp_iconst G dX7_leastMix_2 ?_
  refine wp_istore_n (lv' := [(2, zI 1), (1, zI 0), (0, zR 45)]) G dX7_leastMix_3 (by decide) rfl ?_
  refine wp_lv [2, 1, 0] rfl ?_
  suffices lp4 : ∀ (fu : Nat) (k : Nat) (v1 : Int) (v2 : Int), 10 - k < fu → (v1 = ((lmF su k : Nat) : Int)) → (v2 = ((k + 1 : Nat) : Int)) → (k ≤ 10) → Wp K 3 (Mx K h (Rt (zI ((lmF su 10 : Nat) : Int)) nx []) (0, 0)) (0, 0) 4 [(0, zR 45), (1, zI v1), (2, zI v2)] [] (nx, h, []) from lp4 _ 0 0 1 (Nat.lt_succ_self _) (by rfl) (by omega) (by omega)
  intro fu
  induction fu with
  | zero => intro k v1 v2 hm; exact absurd hm (Nat.not_lt_zero _)
  | succ fu ih4 =>
    intro k v1 v2 hm4 e1 e2 hi0
    subst e1
    subst e2
    have hlm := lmF_le su k
    refine wp_iload_n G 2 dX7_leastMix_4 rfl ?_
    refine wp_bipush G dX7_leastMix_5 (by decide) ?_
    refine wp_icmp_gt G dX7_leastMix_7 (by omega) (by omega) (fun kq1 => ?_) (fun kq1 => ?_)
    · skip
      refine wp_iload_n G 1 dX7_leastMix_34 rfl ?_
      exact wp_ireturn G hr dX7_leastMix_35 ⟨by rw [show k = 10 by omega], rfl, by rfl⟩
    · skip
      refine wp_aload_n G 0 dX7_leastMix_10 rfl ?_
      refine wp_get G 1 cOk6 fX7_15 dX7_leastMix_11 h45 rfl ?_
      refine wp_iload_n G 2 dX7_leastMix_14 rfl ?_
      refine wp_lald (j := k + 1) G dX7_leastMix_15 h47 rfl (by omega) (by decide) ?_
      have rrq1 := hsu (k + 1) (by omega)
      refine wp_aload_n G 0 dX7_leastMix_16 rfl ?_
      refine wp_get G 1 cOk6 fX7_15 dX7_leastMix_17 h45 rfl ?_
      refine wp_iload_n G 1 dX7_leastMix_20 rfl ?_
      refine wp_lald (j := lmF su k) G dX7_leastMix_21 h47 rfl (by omega) (by decide) ?_
      have rrq2 := hsu (lmF su k) (by omega)
      refine wp_lcmp G (by omega) (by omega) dX7_leastMix_22 ?_
      refine wp_if_ge G dX7_leastMix_23 (cmpZ_r _ _) (fun kq2 => ?_) (fun kq2 => ?_)
      · have kq2 : (su (lmF su k)) ≤ (su (k + 1)) := Int.not_lt.mp (fun z => absurd (cmpZ_lt.mpr z) (Int.not_lt.mpr kq2))
        refine wp_iinc (lv' := [(2, zI (((k + 1 : Nat) : Int) + 1)), (0, zR 45), (1, zI ((lmF su k : Nat) : Int))]) G 2 dX7_leastMix_28 rfl (by decide) rfl ?_
        refine wp_goto G dX7_leastMix_31 ?_
        refine wp_lv [1, 2, 0] rfl ?_
        exact ih4 (k + 1) ((lmF su k : Nat) : Int) (((k + 1 : Nat) : Int) + 1) (by omega) (by rw [lmF]; first | (rw [if_pos (by omega)]) | (rw [if_neg (by omega)])) (by omega) (by omega)
      · have kq2 : (su (k + 1)) < (su (lmF su k)) := cmpZ_lt.mp kq2
        refine wp_iload_n G 2 dX7_leastMix_26 rfl ?_
        refine wp_istore_n (lv' := [(1, zI ((k + 1 : Nat) : Int)), (0, zR 45), (2, zI ((k + 1 : Nat) : Int))]) G dX7_leastMix_27 (by decide) rfl ?_
        refine wp_iinc (lv' := [(2, zI (((k + 1 : Nat) : Int) + 1)), (1, zI ((k + 1 : Nat) : Int)), (0, zR 45)]) G 2 dX7_leastMix_28 rfl (by decide) rfl ?_
        refine wp_goto G dX7_leastMix_31 ?_
        refine wp_lv [2, 1, 0] rfl ?_
        exact ih4 (k + 1) ((k + 1 : Nat) : Int) (((k + 1 : Nat) : Int) + 1) (by omega) (by rw [lmF]; first | (rw [if_pos (by omega)]) | (rw [if_neg (by omega)])) (by omega) (by omega)

set_option maxRecDepth 100000 in
set_option maxHeartbeats 4000000 in
theorem t_X7_addStretch {nx : Nat} {h : Nat → Option PC} {n : Nat} {q : Nat → Nat → Int} {o : Nat → Nat} {tu : Nat → Int} {su : Nat → Int} {r : Nat} {ru : Nat} {la : Int} {dy : Nat → Int} {le : Nat → Int} {mo : Nat → Int} {ch : Nat → Int} {r2 : Nat} {ru2 : Nat} {la2 : Int} {dy2 : Nat → Int} {le2 : Nat → Int} {mo2 : Nat → Int} {ch2 : Nat → Int} {m : Int} {s : Int} {t : Int} (hQ : isQ h n q o) (hO : okQ n q o) (h45 : h 45 = some (oO 6 [zR 46, zR 47])) (h46 : h 46 = some (oA 1 4000 tu)) (h47 : h 47 = some (oL 2 11 su)) (h93 : 93 ≤ r) (hF : isF h r ru la dy le mo ch) (hK : okF ru la dy le mo ch) (h932 : 93 ≤ r2) (hF2 : isF h r2 ru2 la2 dy2 le2 mo2 ch2) (hK2 : okF ru2 la2 dy2 le2 mo2 ch2) (ri_m : r32 m) (hs : 0 ≤ s ∧ s ≤ 3999) (ht : 0 ≤ t ∧ t ≤ 4000) : Cx 3 (0, 0) yX7_addStretch cX7_addStretch 13 none [zR 45, zR 2, zR r, zR r2, zI m, zI s, zI t] nx h (Rn nx [(47, oL 2 11 (fun w => if w < 11 then su w + t * ofZ (tld q n ru la dy le mo ch) (tld q n ru2 la2 dy2 le2 mo2 ch2) (dueZ q n m) ((w : Nat) : Int) s * ofZ (tld q n ru la dy le mo ch) (tld q n ru2 la2 dy2 le2 mo2 ch2) (dueZ q n m) ((w : Nat) : Int) s else su w))]) := by
  refine cx_of pnX7_addStretch (Nat.le_of_ble_eq_true rfl) ?_
  intro K G hr hnm hR
  obtain ⟨h2, h3, h4, h5, h6, h7, h8, h9, h10⟩ := id hQ
  have hn40 := hO.1
  obtain ⟨hr0, hr1, hr2, hr3, hr4⟩ := id hF
  have hru := hK.1
  have hla := hK.2.1
  have hb1 := tld_b (q := q) (n := n) hK s
  have hb2 := tld_b (q := q) (n := n) hK2 s
  show Wp K 13 (Mx K h (Rn nx [(47, oL 2 11 (fun w => if w < 11 then su w + t * ofZ (tld q n ru la dy le mo ch) (tld q n ru2 la2 dy2 le2 mo2 ch2) (dueZ q n m) ((w : Nat) : Int) s * ofZ (tld q n ru la dy le mo ch) (tld q n ru2 la2 dy2 le2 mo2 ch2) (dueZ q n m) ((w : Nat) : Int) s else su w))]) (0, 0)) (0, 0) 0 [(0, zR 45), (1, zR 2), (2, zR r), (3, zR r2), (4, zI m), (5, zI s), (6, zI t)] [] (nx, h, [])
  refine wp_aload_n G 2 dX7_addStretch_0 rfl ?_
  refine wp_aload_n G 1 dX7_addStretch_1 rfl ?_
  refine wp_iload G 5 dX7_addStretch_2 rfl ?_
  refine wp_cVE (b := r) (ci := 1) (as := [zR 2, zI s]) (rest := []) (hp2 := (nx, h, [])) G mX1_toldFor lX7_63 iX1_toldFor eX1_toldFor ⟨_, rfl, rfl⟩ dX7_addStretch_4 hr0 rfl rfl (Nat.le_of_ble_eq_true rfl) (rmx_ok hR (by decide) (by decide) (by decide) (by decide)) (t_X1_toldFor (nx := nx) (r := r) (d := s) hQ hO hF hK (by omega)) rfl ?_
  refine wp_istore (lv' := [(7, zI (tld q n ru la dy le mo ch s)), (0, zR 45), (1, zR 2), (2, zR r), (3, zR r2), (4, zI m), (5, zI s), (6, zI t)]) G dX7_addStretch_7 (by decide) rfl ?_
  refine wp_aload_n G 4 dX7_addStretch_9 rfl ?_
  refine wp_aload_n G 2 dX7_addStretch_10 rfl ?_
  refine wp_iload G 6 dX7_addStretch_11 rfl ?_
  refine wp_cVE (b := r2) (ci := 1) (as := [zR 2, zI s]) (rest := []) (hp2 := (nx, h, [])) G mX1_toldFor lX7_63 iX1_toldFor eX1_toldFor ⟨_, rfl, rfl⟩ dX7_addStretch_13 hF2.1 rfl rfl (Nat.le_of_ble_eq_true rfl) (rmx_ok hR (by decide) (by decide) (by decide) (by decide)) (t_X1_toldFor (nx := nx) (r := r2) (d := s) (ru := ru2) (la := la2) (dy := dy2) (le := le2) (mo := mo2) (ch := ch2) hQ hO hF2 hK2 (by omega)) rfl ?_
  refine wp_istore (lv' := [(8, zI (tld q n ru2 la2 dy2 le2 mo2 ch2 s)), (7, zI (tld q n ru la dy le mo ch s)), (0, zR 45), (1, zR 2), (2, zR r), (3, zR r2), (4, zI m), (5, zI s), (6, zI t)]) G dX7_addStretch_16 (by decide) rfl ?_
  refine wp_aload_n G 3 dX7_addStretch_18 rfl ?_
  refine wp_iload G 7 dX7_addStretch_19 rfl ?_
  refine wp_iload G 6 dX7_addStretch_21 rfl ?_
  refine wp_cVE (b := 2) (ci := 5) (as := [zI s, zI m]) (rest := []) (hp2 := (nx, h, [])) G mX6_strikes lX7_67 iX6_strikes eX6_strikes ⟨_, rfl, rfl⟩ dX7_addStretch_23 h2 rfl rfl (Nat.le_of_ble_eq_true rfl) (rmx_ok hR (by decide) (by decide) (by decide) (by decide)) (t_X6_strikes (nx := nx) (a := s) (m := m) hQ hO (by omega) ri_m) rfl ?_
  refine wp_ifeq_bt G dX7_addStretch_26 (fun kq1 => ?_) (fun kq1 => ?_)
  · skip
    refine wp_iconst G dX7_addStretch_35 ?_
    have hdue : 0 = dueZ q n m s := by unfold dueZ; first | rw [ifZ_y (by assumption)] | rw [ifZ_n (by assumption)]
    have hdue2 : dueZ q n m s = 0 ∨ dueZ q n m s = 1000 := by omega
    rw [hdue]
    refine wp_istore (lv' := [(9, zI (dueZ q n m s)), (8, zI (tld q n ru2 la2 dy2 le2 mo2 ch2 s)), (7, zI (tld q n ru la dy le mo ch s)), (0, zR 45), (1, zR 2), (2, zR r), (3, zR r2), (4, zI m), (5, zI s), (6, zI t)]) G dX7_addStretch_36 (by decide) rfl ?_
    refine wp_iconst G dX7_addStretch_38 ?_
    refine wp_istore (lv' := [(10, zI 0), (9, zI (dueZ q n m s)), (8, zI (tld q n ru2 la2 dy2 le2 mo2 ch2 s)), (7, zI (tld q n ru la dy le mo ch s)), (0, zR 45), (1, zR 2), (2, zR r), (3, zR r2), (4, zI m), (5, zI s), (6, zI t)]) G dX7_addStretch_39 (by decide) rfl ?_
    refine wp_own (r := 47) (hp2 := (nx, h, [(47, oL 2 11 su)])) h47 rfl ?_
    refine wp_lv [4, 5, 6, 7, 8, 9, 10, 3, 2, 1, 0] rfl ?_
    suffices lp41 : ∀ (fu : Nat) (i : Nat) (v10 : Int) (A47 : Nat → Int), 11 - i < fu → (v10 = ((i : Nat) : Int)) → (A47 = fun w => if w < i then su w + t * ofZ (tld q n ru la dy le mo ch) (tld q n ru2 la2 dy2 le2 mo2 ch2) (dueZ q n m) ((w : Nat) : Int) s * ofZ (tld q n ru la dy le mo ch) (tld q n ru2 la2 dy2 le2 mo2 ch2) (dueZ q n m) ((w : Nat) : Int) s else su w) → (i ≤ 11) → Wp K 13 (Mx K h (Rn nx [(47, oL 2 11 (fun w => if w < 11 then su w + t * ofZ (tld q n ru la dy le mo ch) (tld q n ru2 la2 dy2 le2 mo2 ch2) (dueZ q n m) ((w : Nat) : Int) s * ofZ (tld q n ru la dy le mo ch) (tld q n ru2 la2 dy2 le2 mo2 ch2) (dueZ q n m) ((w : Nat) : Int) s else su w))]) (0, 0)) (0, 0) 41 [(0, zR 45), (1, zR 2), (2, zR r), (3, zR r2), (4, zI m), (5, zI s), (6, zI t), (7, zI (tld q n ru la dy le mo ch s)), (8, zI (tld q n ru2 la2 dy2 le2 mo2 ch2 s)), (9, zI (dueZ q n m s)), (10, zI v10)] [] (nx, h, [(47, oL 2 11 A47)]) from lp41 _ 0 0 su (Nat.lt_succ_self _) (by omega) (by exact as_0 su t (fun w => ofZ (tld q n ru la dy le mo ch) (tld q n ru2 la2 dy2 le2 mo2 ch2) (dueZ q n m) ((w : Nat) : Int) s)) (by omega)
    intro fu
    induction fu with
    | zero => intro i v10 A47 hm; exact absurd hm (Nat.not_lt_zero _)
    | succ fu ih41 =>
      intro i v10 A47 hm41 e10 eA47 hi0
      subst e10
      subst eA47
      have hob := fun z => ofZ_b (F := (tld q n ru la dy le mo ch)) (G := (tld q n ru2 la2 dy2 le2 mo2 ch2)) (D := (dueZ q n m)) (w := ((i : Nat) : Int)) (d := s) hb1 hb2 hdue2 z
      refine wp_iload G 10 dX7_addStretch_41 rfl ?_
      refine wp_bipush G dX7_addStretch_43 (by decide) ?_
      refine wp_icmp_gt G dX7_addStretch_45 (by omega) (by omega) (fun kq2 => ?_) (fun kq2 => ?_)
      · skip
        exact wp_vreturn G hr dX7_addStretch_96 ⟨rfl, rfl, by rw [show i = 11 by omega]⟩
      · skip
        have hob2 := hob (by omega)
        have hob3 := hob2.2
        unfold ofZ at hob3
        refine wp_iload G 10 dX7_addStretch_48 rfl ?_
        refine wp_iload G 7 dX7_addStretch_50 rfl ?_
        refine wp_imul G dX7_addStretch_52 ?_
        refine wp_bipush G dX7_addStretch_53 (by decide) ?_
        refine wp_iload G 10 dX7_addStretch_55 rfl ?_
        refine wp_isub G dX7_addStretch_57 ?_
        refine wp_iload G 8 dX7_addStretch_58 rfl ?_
        refine wp_imul G dX7_addStretch_60 ?_
        refine wp_iadd G dX7_addStretch_61 ?_
        refine wp_bipush G dX7_addStretch_62 (by decide) ?_
        refine wp_idiv G (by omega) (by omega) (by omega) (by omega) dX7_addStretch_64 ?_
        refine wp_iload G 9 dX7_addStretch_65 rfl ?_
        refine wp_isub G dX7_addStretch_67 ?_
        refine wp_i2l G (by omega) dX7_addStretch_68 ?_
        refine wp_lstore (lv' := [(11, zJ ((((((i : Nat) : Int) * tld q n ru la dy le mo ch s) + ((10 - ((i : Nat) : Int)) * tld q n ru2 la2 dy2 le2 mo2 ch2 s)) / 10) - dueZ q n m s)), (0, zR 45), (1, zR 2), (2, zR r), (3, zR r2), (4, zI m), (5, zI s), (6, zI t), (7, zI (tld q n ru la dy le mo ch s)), (8, zI (tld q n ru2 la2 dy2 le2 mo2 ch2 s)), (9, zI (dueZ q n m s)), (10, zI ((i : Nat) : Int))]) G dX7_addStretch_69 (by decide) rfl ?_
        refine wp_aload_n G 1 dX7_addStretch_71 rfl ?_
        refine wp_get G 1 cOk6 fX7_15 dX7_addStretch_72 h45 rfl ?_
        refine wp_iload G 11 dX7_addStretch_75 rfl ?_
        refine wp_dup2 G rfl rfl dX7_addStretch_77 ?_
        refine wp_lald (j := i) G dX7_addStretch_78 rfl rfl (by omega) (by decide) ?_
        refine wp_iload G 7 dX7_addStretch_79 rfl ?_
        refine wp_i2l G (by omega) dX7_addStretch_81 ?_
        refine wp_lload G 0 dX7_addStretch_82 rfl ?_
        refine wp_lmul G dX7_addStretch_84 ?_
        refine wp_lload G 0 dX7_addStretch_85 rfl ?_
        refine wp_lmul G dX7_addStretch_87 ?_
        refine wp_ladd G dX7_addStretch_88 ?_
        refine wp_lastE (j := i) (hp2 := (nx, h, [(47, oL 2 11 (fup (fun w => if w < i then su w + t * ofZ (tld q n ru la dy le mo ch) (tld q n ru2 la2 dy2 le2 mo2 ch2) (dueZ q n m) ((w : Nat) : Int) s * ofZ (tld q n ru la dy le mo ch) (tld q n ru2 la2 dy2 le2 mo2 ch2) (dueZ q n m) ((w : Nat) : Int) s else su w) i ((if i < i then su i + t * ofZ (tld q n ru la dy le mo ch) (tld q n ru2 la2 dy2 le2 mo2 ch2) (dueZ q n m) ((i : Nat) : Int) s * ofZ (tld q n ru la dy le mo ch) (tld q n ru2 la2 dy2 le2 mo2 ch2) (dueZ q n m) ((i : Nat) : Int) s else su i) + ((t * ((((((i : Nat) : Int) * tld q n ru la dy le mo ch s) + ((10 - ((i : Nat) : Int)) * tld q n ru2 la2 dy2 le2 mo2 ch2 s)) / 10) - dueZ q n m s)) * ((((((i : Nat) : Int) * tld q n ru la dy le mo ch s) + ((10 - ((i : Nat) : Int)) * tld q n ru2 la2 dy2 le2 mo2 ch2 s)) / 10) - dueZ q n m s)))))])) G dX7_addStretch_89 rfl rfl (by omega) (by decide) rfl ?_
        refine wp_iinc (lv' := [(10, zI (((i : Nat) : Int) + 1)), (11, zJ ((((((i : Nat) : Int) * tld q n ru la dy le mo ch s) + ((10 - ((i : Nat) : Int)) * tld q n ru2 la2 dy2 le2 mo2 ch2 s)) / 10) - dueZ q n m s)), (0, zR 45), (1, zR 2), (2, zR r), (3, zR r2), (4, zI m), (5, zI s), (6, zI t), (7, zI (tld q n ru la dy le mo ch s)), (8, zI (tld q n ru2 la2 dy2 le2 mo2 ch2 s)), (9, zI (dueZ q n m s))]) G 11 dX7_addStretch_90 rfl (by decide) rfl ?_
        refine wp_goto G dX7_addStretch_93 ?_
        refine wp_lv [2, 3, 4, 5, 6, 7, 8, 9, 10, 11, 0] rfl ?_
        exact ih41 (i + 1) (((i : Nat) : Int) + 1) (fup (fun w => if w < i then su w + t * ofZ (tld q n ru la dy le mo ch) (tld q n ru2 la2 dy2 le2 mo2 ch2) (dueZ q n m) ((w : Nat) : Int) s * ofZ (tld q n ru la dy le mo ch) (tld q n ru2 la2 dy2 le2 mo2 ch2) (dueZ q n m) ((w : Nat) : Int) s else su w) i ((if i < i then su i + t * ofZ (tld q n ru la dy le mo ch) (tld q n ru2 la2 dy2 le2 mo2 ch2) (dueZ q n m) ((i : Nat) : Int) s * ofZ (tld q n ru la dy le mo ch) (tld q n ru2 la2 dy2 le2 mo2 ch2) (dueZ q n m) ((i : Nat) : Int) s else su i) + ((t * ((((((i : Nat) : Int) * tld q n ru la dy le mo ch s) + ((10 - ((i : Nat) : Int)) * tld q n ru2 la2 dy2 le2 mo2 ch2 s)) / 10) - dueZ q n m s)) * ((((((i : Nat) : Int) * tld q n ru la dy le mo ch s) + ((10 - ((i : Nat) : Int)) * tld q n ru2 la2 dy2 le2 mo2 ch2 s)) / 10) - dueZ q n m s)))) (by omega) (by omega) (by exact as_s su t (fun w => ofZ (tld q n ru la dy le mo ch) (tld q n ru2 la2 dy2 le2 mo2 ch2) (dueZ q n m) ((w : Nat) : Int) s) i) (by omega)
  · skip
    refine wp_sipush G dX7_addStretch_29 (by decide) ?_
    refine wp_goto G dX7_addStretch_32 ?_
    have hdue : 1000 = dueZ q n m s := by unfold dueZ; first | rw [ifZ_y (by assumption)] | rw [ifZ_n (by assumption)]
    have hdue2 : dueZ q n m s = 0 ∨ dueZ q n m s = 1000 := by omega
    rw [hdue]
    refine wp_istore (lv' := [(9, zI (dueZ q n m s)), (8, zI (tld q n ru2 la2 dy2 le2 mo2 ch2 s)), (7, zI (tld q n ru la dy le mo ch s)), (0, zR 45), (1, zR 2), (2, zR r), (3, zR r2), (4, zI m), (5, zI s), (6, zI t)]) G dX7_addStretch_36 (by decide) rfl ?_
    refine wp_iconst G dX7_addStretch_38 ?_
    refine wp_istore (lv' := [(10, zI 0), (9, zI (dueZ q n m s)), (8, zI (tld q n ru2 la2 dy2 le2 mo2 ch2 s)), (7, zI (tld q n ru la dy le mo ch s)), (0, zR 45), (1, zR 2), (2, zR r), (3, zR r2), (4, zI m), (5, zI s), (6, zI t)]) G dX7_addStretch_39 (by decide) rfl ?_
    refine wp_own (r := 47) (hp2 := (nx, h, [(47, oL 2 11 su)])) h47 rfl ?_
    refine wp_lv [4, 5, 6, 7, 8, 9, 10, 3, 2, 1, 0] rfl ?_
    suffices lp41 : ∀ (fu : Nat) (i : Nat) (v10 : Int) (A47 : Nat → Int), 11 - i < fu → (v10 = ((i : Nat) : Int)) → (A47 = fun w => if w < i then su w + t * ofZ (tld q n ru la dy le mo ch) (tld q n ru2 la2 dy2 le2 mo2 ch2) (dueZ q n m) ((w : Nat) : Int) s * ofZ (tld q n ru la dy le mo ch) (tld q n ru2 la2 dy2 le2 mo2 ch2) (dueZ q n m) ((w : Nat) : Int) s else su w) → (i ≤ 11) → Wp K 13 (Mx K h (Rn nx [(47, oL 2 11 (fun w => if w < 11 then su w + t * ofZ (tld q n ru la dy le mo ch) (tld q n ru2 la2 dy2 le2 mo2 ch2) (dueZ q n m) ((w : Nat) : Int) s * ofZ (tld q n ru la dy le mo ch) (tld q n ru2 la2 dy2 le2 mo2 ch2) (dueZ q n m) ((w : Nat) : Int) s else su w))]) (0, 0)) (0, 0) 41 [(0, zR 45), (1, zR 2), (2, zR r), (3, zR r2), (4, zI m), (5, zI s), (6, zI t), (7, zI (tld q n ru la dy le mo ch s)), (8, zI (tld q n ru2 la2 dy2 le2 mo2 ch2 s)), (9, zI (dueZ q n m s)), (10, zI v10)] [] (nx, h, [(47, oL 2 11 A47)]) from lp41 _ 0 0 su (Nat.lt_succ_self _) (by omega) (by exact as_0 su t (fun w => ofZ (tld q n ru la dy le mo ch) (tld q n ru2 la2 dy2 le2 mo2 ch2) (dueZ q n m) ((w : Nat) : Int) s)) (by omega)
    intro fu
    induction fu with
    | zero => intro i v10 A47 hm; exact absurd hm (Nat.not_lt_zero _)
    | succ fu ih41 =>
      intro i v10 A47 hm41 e10 eA47 hi0
      subst e10
      subst eA47
      have hob := fun z => ofZ_b (F := (tld q n ru la dy le mo ch)) (G := (tld q n ru2 la2 dy2 le2 mo2 ch2)) (D := (dueZ q n m)) (w := ((i : Nat) : Int)) (d := s) hb1 hb2 hdue2 z
      refine wp_iload G 10 dX7_addStretch_41 rfl ?_
      refine wp_bipush G dX7_addStretch_43 (by decide) ?_
      refine wp_icmp_gt G dX7_addStretch_45 (by omega) (by omega) (fun kq3 => ?_) (fun kq3 => ?_)
      · skip
        exact wp_vreturn G hr dX7_addStretch_96 ⟨rfl, rfl, by rw [show i = 11 by omega]⟩
      · skip
        have hob2 := hob (by omega)
        have hob3 := hob2.2
        unfold ofZ at hob3
        refine wp_iload G 10 dX7_addStretch_48 rfl ?_
        refine wp_iload G 7 dX7_addStretch_50 rfl ?_
        refine wp_imul G dX7_addStretch_52 ?_
        refine wp_bipush G dX7_addStretch_53 (by decide) ?_
        refine wp_iload G 10 dX7_addStretch_55 rfl ?_
        refine wp_isub G dX7_addStretch_57 ?_
        refine wp_iload G 8 dX7_addStretch_58 rfl ?_
        refine wp_imul G dX7_addStretch_60 ?_
        refine wp_iadd G dX7_addStretch_61 ?_
        refine wp_bipush G dX7_addStretch_62 (by decide) ?_
        refine wp_idiv G (by omega) (by omega) (by omega) (by omega) dX7_addStretch_64 ?_
        refine wp_iload G 9 dX7_addStretch_65 rfl ?_
        refine wp_isub G dX7_addStretch_67 ?_
        refine wp_i2l G (by omega) dX7_addStretch_68 ?_
        refine wp_lstore (lv' := [(11, zJ ((((((i : Nat) : Int) * tld q n ru la dy le mo ch s) + ((10 - ((i : Nat) : Int)) * tld q n ru2 la2 dy2 le2 mo2 ch2 s)) / 10) - dueZ q n m s)), (0, zR 45), (1, zR 2), (2, zR r), (3, zR r2), (4, zI m), (5, zI s), (6, zI t), (7, zI (tld q n ru la dy le mo ch s)), (8, zI (tld q n ru2 la2 dy2 le2 mo2 ch2 s)), (9, zI (dueZ q n m s)), (10, zI ((i : Nat) : Int))]) G dX7_addStretch_69 (by decide) rfl ?_
        refine wp_aload_n G 1 dX7_addStretch_71 rfl ?_
        refine wp_get G 1 cOk6 fX7_15 dX7_addStretch_72 h45 rfl ?_
        refine wp_iload G 11 dX7_addStretch_75 rfl ?_
        refine wp_dup2 G rfl rfl dX7_addStretch_77 ?_
        refine wp_lald (j := i) G dX7_addStretch_78 rfl rfl (by omega) (by decide) ?_
        refine wp_iload G 7 dX7_addStretch_79 rfl ?_
        refine wp_i2l G (by omega) dX7_addStretch_81 ?_
        refine wp_lload G 0 dX7_addStretch_82 rfl ?_
        refine wp_lmul G dX7_addStretch_84 ?_
        refine wp_lload G 0 dX7_addStretch_85 rfl ?_
        refine wp_lmul G dX7_addStretch_87 ?_
        refine wp_ladd G dX7_addStretch_88 ?_
        refine wp_lastE (j := i) (hp2 := (nx, h, [(47, oL 2 11 (fup (fun w => if w < i then su w + t * ofZ (tld q n ru la dy le mo ch) (tld q n ru2 la2 dy2 le2 mo2 ch2) (dueZ q n m) ((w : Nat) : Int) s * ofZ (tld q n ru la dy le mo ch) (tld q n ru2 la2 dy2 le2 mo2 ch2) (dueZ q n m) ((w : Nat) : Int) s else su w) i ((if i < i then su i + t * ofZ (tld q n ru la dy le mo ch) (tld q n ru2 la2 dy2 le2 mo2 ch2) (dueZ q n m) ((i : Nat) : Int) s * ofZ (tld q n ru la dy le mo ch) (tld q n ru2 la2 dy2 le2 mo2 ch2) (dueZ q n m) ((i : Nat) : Int) s else su i) + ((t * ((((((i : Nat) : Int) * tld q n ru la dy le mo ch s) + ((10 - ((i : Nat) : Int)) * tld q n ru2 la2 dy2 le2 mo2 ch2 s)) / 10) - dueZ q n m s)) * ((((((i : Nat) : Int) * tld q n ru la dy le mo ch s) + ((10 - ((i : Nat) : Int)) * tld q n ru2 la2 dy2 le2 mo2 ch2 s)) / 10) - dueZ q n m s)))))])) G dX7_addStretch_89 rfl rfl (by omega) (by decide) rfl ?_
        refine wp_iinc (lv' := [(10, zI (((i : Nat) : Int) + 1)), (11, zJ ((((((i : Nat) : Int) * tld q n ru la dy le mo ch s) + ((10 - ((i : Nat) : Int)) * tld q n ru2 la2 dy2 le2 mo2 ch2 s)) / 10) - dueZ q n m s)), (0, zR 45), (1, zR 2), (2, zR r), (3, zR r2), (4, zI m), (5, zI s), (6, zI t), (7, zI (tld q n ru la dy le mo ch s)), (8, zI (tld q n ru2 la2 dy2 le2 mo2 ch2 s)), (9, zI (dueZ q n m s))]) G 11 dX7_addStretch_90 rfl (by decide) rfl ?_
        refine wp_goto G dX7_addStretch_93 ?_
        refine wp_lv [2, 3, 4, 5, 6, 7, 8, 9, 10, 11, 0] rfl ?_
        exact ih41 (i + 1) (((i : Nat) : Int) + 1) (fup (fun w => if w < i then su w + t * ofZ (tld q n ru la dy le mo ch) (tld q n ru2 la2 dy2 le2 mo2 ch2) (dueZ q n m) ((w : Nat) : Int) s * ofZ (tld q n ru la dy le mo ch) (tld q n ru2 la2 dy2 le2 mo2 ch2) (dueZ q n m) ((w : Nat) : Int) s else su w) i ((if i < i then su i + t * ofZ (tld q n ru la dy le mo ch) (tld q n ru2 la2 dy2 le2 mo2 ch2) (dueZ q n m) ((i : Nat) : Int) s * ofZ (tld q n ru la dy le mo ch) (tld q n ru2 la2 dy2 le2 mo2 ch2) (dueZ q n m) ((i : Nat) : Int) s else su i) + ((t * ((((((i : Nat) : Int) * tld q n ru la dy le mo ch s) + ((10 - ((i : Nat) : Int)) * tld q n ru2 la2 dy2 le2 mo2 ch2 s)) / 10) - dueZ q n m s)) * ((((((i : Nat) : Int) * tld q n ru la dy le mo ch s) + ((10 - ((i : Nat) : Int)) * tld q n ru2 la2 dy2 le2 mo2 ch2 s)) / 10) - dueZ q n m s)))) (by omega) (by omega) (by exact as_s su t (fun w => ofZ (tld q n ru la dy le mo ch) (tld q n ru2 la2 dy2 le2 mo2 ch2) (dueZ q n m) ((w : Nat) : Int) s) i) (by omega)

set_option maxRecDepth 100000 in
set_option maxHeartbeats 4000000 in
theorem t_X7_work {nx : Nat} {h : Nat → Option PC} {n : Nat} {q : Nat → Nat → Int} {o : Nat → Nat} {tu : Nat → Int} {su : Nat → Int} {r : Nat} {ru : Nat} {la : Int} {dy : Nat → Int} {le : Nat → Int} {mo : Nat → Int} {ch : Nat → Int} {r2 : Nat} {ru2 : Nat} {la2 : Int} {dy2 : Nat → Int} {le2 : Nat → Int} {mo2 : Nat → Int} {ch2 : Nat → Int} {m : Int} {a : Nat} {b : Nat} (hQ : isQ h n q o) (hO : okQ n q o) (h45 : h 45 = some (oO 6 [zR 46, zR 47])) (h46 : h 46 = some (oA 1 4000 tu)) (h47 : h 47 = some (oL 2 11 su)) (h93 : 93 ≤ r) (hF : isF h r ru la dy le mo ch) (hK : okF ru la dy le mo ch) (h932 : 93 ≤ r2) (hF2 : isF h r2 ru2 la2 dy2 le2 mo2 ch2) (hK2 : okF ru2 la2 dy2 le2 mo2 ch2) (ri_m : r32 m) (hab : a ≤ b) (hb9 : b ≤ 3999) (htu : ∀ j, j < 4000 → tu j = 0) : Cx 4 (0, 0) yX7_work cX7_work 9 none [zR 45, zR 2, zR r, zR r2, zI m, zI ((a : Nat) : Int), zI ((b : Nat) : Int)] nx h (fun rr nx' l' => ∃ (S : Nat → Int) (T : Nat → Int), (∀ w, w < 11 → S w = scZ (tld q n ru la dy le mo ch) (tld q n ru2 la2 dy2 le2 mo2 ch2) (dueZ q n m) ((w : Nat) : Int) ((a : Nat) : Int) (b + 1 - a)) ∧ (∀ j, j < 4000 → T j = 0) ∧ rr = none ∧ nx' = nx ∧ l' = [(47, oL 2 11 S), (46, oA 1 4000 T)]) := by
  refine cx_of pnX7_work (Nat.le_of_ble_eq_true rfl) ?_
  intro K G hr hnm hR
  obtain ⟨h2, h3, h4, h5, h6, h7, h8, h9, h10⟩ := id hQ
  have hn40 := hO.1
  obtain ⟨hr0, hr1, hr2, hr3, hr4⟩ := id hF
  have hru := hK.1
  have hla := hK.2.1
  have hmk := mkA_ok q n m ((a : Nat) : Int) ((b : Nat) : Int) ru ru2 dy le dy2 le2 tu
  show Wp K 9 (Mx K h (fun rr nx' l' => ∃ (S : Nat → Int) (T : Nat → Int), (∀ w, w < 11 → S w = scZ (tld q n ru la dy le mo ch) (tld q n ru2 la2 dy2 le2 mo2 ch2) (dueZ q n m) ((w : Nat) : Int) ((a : Nat) : Int) (b + 1 - a)) ∧ (∀ j, j < 4000 → T j = 0) ∧ rr = none ∧ nx' = nx ∧ l' = [(47, oL 2 11 S), (46, oA 1 4000 T)]) (0, 0)) (0, 0) 0 [(0, zR 45), (1, zR 2), (2, zR r), (3, zR r2), (4, zI m), (5, zI ((a : Nat) : Int)), (6, zI ((b : Nat) : Int))] [] (nx, h, [])
  refine wp_iconst G dX7_work_0 ?_
  refine wp_istore (lv' := [(7, zI 0), (0, zR 45), (1, zR 2), (2, zR r), (3, zR r2), (4, zI m), (5, zI ((a : Nat) : Int)), (6, zI ((b : Nat) : Int))]) G dX7_work_1 (by decide) rfl ?_
  refine wp_own (r := 47) (hp2 := (nx, h, [(47, oL 2 11 su)])) h47 rfl ?_
  refine wp_lv [1, 2, 3, 4, 5, 6, 7, 0] rfl ?_
  suffices lp3 : ∀ (fu : Nat) (k : Nat) (v7 : Int) (A47 : Nat → Int), 11 - k < fu → (v7 = ((k : Nat) : Int)) → (A47 = fun w => if w < k then 0 else su w) → (k ≤ 11) → Wp K 9 (Mx K h (fun rr nx' l' => ∃ (S : Nat → Int) (T : Nat → Int), (∀ w, w < 11 → S w = scZ (tld q n ru la dy le mo ch) (tld q n ru2 la2 dy2 le2 mo2 ch2) (dueZ q n m) ((w : Nat) : Int) ((a : Nat) : Int) (b + 1 - a)) ∧ (∀ j, j < 4000 → T j = 0) ∧ rr = none ∧ nx' = nx ∧ l' = [(47, oL 2 11 S), (46, oA 1 4000 T)]) (0, 0)) (0, 0) 3 [(0, zR 45), (1, zR 2), (2, zR r), (3, zR r2), (4, zI m), (5, zI ((a : Nat) : Int)), (6, zI ((b : Nat) : Int)), (7, zI v7)] [] (nx, h, [(47, oL 2 11 A47)]) from lp3 _ 0 0 su (Nat.lt_succ_self _) (by omega) (by exact z47_0 su) (by omega)
  intro fu
  induction fu with
  | zero => intro k v7 A47 hm; exact absurd hm (Nat.not_lt_zero _)
  | succ fu ih3 =>
    intro k v7 A47 hm3 e7 eA47 hi0
    subst e7
    subst eA47
    refine wp_iload G 7 dX7_work_3 rfl ?_
    refine wp_bipush G dX7_work_5 (by decide) ?_
    refine wp_icmp_gt G dX7_work_7 (by omega) (by omega) (fun kq1 => ?_) (fun kq1 => ?_)
    · skip
      refine wp_aload_n G 0 dX7_work_24 rfl ?_
      refine wp_aload_n G 1 dX7_work_25 rfl ?_
      refine wp_iload G 4 dX7_work_26 rfl ?_
      refine wp_iload G 5 dX7_work_28 rfl ?_
      refine wp_iload G 6 dX7_work_30 rfl ?_
      refine wp_cVN (b := 45) (ci := 6) (as := [zR 2, zI m, zI ((a : Nat) : Int), zI ((b : Nat) : Int)]) (rest := []) (hp2 := (nx, h, [(47, oL 2 11 (fun w => if w < k then 0 else su w)), (46, oA 1 4000 (msF q m ((a : Nat) : Int) ((b : Nat) : Int) tu n))])) G mX7_markStrikes lX7_19 iX7_markStrikes eX7_markStrikes ⟨_, rfl, rfl⟩ dX7_work_32 h45 rfl rfl (Nat.le_of_ble_eq_true rfl) (rmx_ok hR (by decide) (by decide) (by decide) (by decide)) (t_X7_markStrikes (nx := nx) (m := m) (a := ((a : Nat) : Int)) (b := ((b : Nat) : Int)) (su := (fun w => if w < k then 0 else su w)) hQ hO h45 h46 rfl ri_m (by omega) (by omega)) rfl ?_
      refine wp_aload_n G 0 dX7_work_35 rfl ?_
      refine wp_aload_n G 1 dX7_work_36 rfl ?_
      refine wp_aload_n G 2 dX7_work_37 rfl ?_
      refine wp_iload G 5 dX7_work_38 rfl ?_
      refine wp_iload G 6 dX7_work_40 rfl ?_
      refine wp_cVN (b := 45) (ci := 6) (as := [zR 2, zR r, zI ((a : Nat) : Int), zI ((b : Nat) : Int)]) (rest := []) (hp2 := (nx, h, [(47, oL 2 11 (fun w => if w < k then 0 else su w)), (46, oA 1 4000 (mrF q n ((a : Nat) : Int) ((b : Nat) : Int) dy le (msF q m ((a : Nat) : Int) ((b : Nat) : Int) tu n) ru))])) G mX7_markRules lX7_23 iX7_markRules eX7_markRules ⟨_, rfl, rfl⟩ dX7_work_42 h45 rfl rfl (Nat.le_of_ble_eq_true rfl) (rmx_ok hR (by decide) (by decide) (by decide) (by decide)) (t_X7_markRules (nx := nx) (r := r) (a := ((a : Nat) : Int)) (b := ((b : Nat) : Int)) (su := (fun w => if w < k then 0 else su w)) (tu := (msF q m ((a : Nat) : Int) ((b : Nat) : Int) tu n)) hQ hO h45 rfl rfl h93 (isF_lk h93 rfl hF) hK (by omega) (by omega)) rfl ?_
      refine wp_aload_n G 0 dX7_work_45 rfl ?_
      refine wp_aload_n G 1 dX7_work_46 rfl ?_
      refine wp_aload_n G 3 dX7_work_47 rfl ?_
      refine wp_iload G 5 dX7_work_48 rfl ?_
      refine wp_iload G 6 dX7_work_50 rfl ?_
      refine wp_cVN (b := 45) (ci := 6) (as := [zR 2, zR r2, zI ((a : Nat) : Int), zI ((b : Nat) : Int)]) (rest := []) (hp2 := (nx, h, [(47, oL 2 11 (fun w => if w < k then 0 else su w)), (46, oA 1 4000 (mrF q n ((a : Nat) : Int) ((b : Nat) : Int) dy2 le2 (mrF q n ((a : Nat) : Int) ((b : Nat) : Int) dy le (msF q m ((a : Nat) : Int) ((b : Nat) : Int) tu n) ru) ru2))])) G mX7_markRules lX7_23 iX7_markRules eX7_markRules ⟨_, rfl, rfl⟩ dX7_work_52 h45 rfl rfl (Nat.le_of_ble_eq_true rfl) (rmx_ok hR (by decide) (by decide) (by decide) (by decide)) (t_X7_markRules (nx := nx) (r := r2) (a := ((a : Nat) : Int)) (b := ((b : Nat) : Int)) (su := (fun w => if w < k then 0 else su w)) (ru := ru2) (la := la2) (dy := dy2) (le := le2) (mo := mo2) (ch := ch2) (tu := (mrF q n ((a : Nat) : Int) ((b : Nat) : Int) dy le (msF q m ((a : Nat) : Int) ((b : Nat) : Int) tu n) ru)) hQ hO h45 rfl rfl h932 (isF_lk h932 rfl hF2) hK2 (by omega) (by omega)) rfl ?_
      refine wp_iload G 5 dX7_work_55 rfl ?_
      refine wp_istore (lv' := [(7, zI ((a : Nat) : Int)), (0, zR 45), (1, zR 2), (2, zR r), (3, zR r2), (4, zI m), (5, zI ((a : Nat) : Int)), (6, zI ((b : Nat) : Int))]) G dX7_work_57 (by decide) rfl ?_
      refine wp_iload G 6 dX7_work_59 rfl ?_
      refine wp_iconst G dX7_work_61 ?_
      refine wp_iadd G dX7_work_62 ?_
      refine wp_istore (lv' := [(8, zI (((a : Nat) : Int) + 1)), (7, zI ((a : Nat) : Int)), (0, zR 45), (1, zR 2), (2, zR r), (3, zR r2), (4, zI m), (5, zI ((a : Nat) : Int)), (6, zI ((b : Nat) : Int))]) G dX7_work_63 (by decide) rfl ?_
      refine wp_lv [2, 3, 4, 5, 6, 7, 8, 1, 0] rfl ?_
      suffices lp65 : ∀ (fu : Nat) (s : Nat) (dd : Nat) (S : Nat → Int) (T : Nat → Int) (v7 : Int) (v8 : Int), b + 1 - dd < fu → (v7 = ((s : Nat) : Int)) → (v8 = ((dd : Nat) : Int)) → (a ≤ s) → (s < dd) → (dd ≤ b + 1) → (∀ w, w < 11 → S w = scZ (tld q n ru la dy le mo ch) (tld q n ru2 la2 dy2 le2 mo2 ch2) (dueZ q n m) ((w : Nat) : Int) ((a : Nat) : Int) (s - a)) → (∀ j, j < 4000 → T j = if dd ≤ j then (mkA q n m ((a : Nat) : Int) ((b : Nat) : Int) ru ru2 dy le dy2 le2 tu) j else 0) → (∀ t : Nat, s ≤ t → t < dd → (tld q n ru la dy le mo ch) ((t : Nat) : Int) = (tld q n ru la dy le mo ch) ((s : Nat) : Int) ∧ (tld q n ru2 la2 dy2 le2 mo2 ch2) ((t : Nat) : Int) = (tld q n ru2 la2 dy2 le2 mo2 ch2) ((s : Nat) : Int) ∧ (dueZ q n m) ((t : Nat) : Int) = (dueZ q n m) ((s : Nat) : Int)) → Wp K 9 (Mx K h (fun rr nx' l' => ∃ (S : Nat → Int) (T : Nat → Int), (∀ w, w < 11 → S w = scZ (tld q n ru la dy le mo ch) (tld q n ru2 la2 dy2 le2 mo2 ch2) (dueZ q n m) ((w : Nat) : Int) ((a : Nat) : Int) (b + 1 - a)) ∧ (∀ j, j < 4000 → T j = 0) ∧ rr = none ∧ nx' = nx ∧ l' = [(47, oL 2 11 S), (46, oA 1 4000 T)]) (0, 0)) (0, 0) 65 [(0, zR 45), (1, zR 2), (2, zR r), (3, zR r2), (4, zI m), (5, zI ((a : Nat) : Int)), (6, zI ((b : Nat) : Int)), (7, zI v7), (8, zI v8)] [] (nx, h, [(47, oL 2 11 S), (46, oA 1 4000 T)]) from lp65 _ a (a + 1) (fun w => if w < k then 0 else su w) (mrF q n ((a : Nat) : Int) ((b : Nat) : Int) dy2 le2 (mrF q n ((a : Nat) : Int) ((b : Nat) : Int) dy le (msF q m ((a : Nat) : Int) ((b : Nat) : Int) tu n) ru) ru2) ((a : Nat) : Int) (((a : Nat) : Int) + 1) (Nat.lt_succ_self _) (by omega) (by omega) (by omega) (by omega) (by omega) (by intro w hw; rw [if_pos (show w < k by omega), Nat.sub_self]; rfl) (by intro j hj; by_cases z : a + 1 ≤ j; rw [if_pos z]; rfl; rw [if_neg z]; exact (hmk.2.2 (by omega) j (by omega)).trans (htu j hj)) (by intro t h1 h2; have e : t = a := (by omega); subst e; exact ⟨rfl, rfl, rfl⟩)
      intro fu
      induction fu with
      | zero => intro s dd S T v7 v8 hm; exact absurd hm (Nat.not_lt_zero _)
      | succ fu ih65 =>
        intro s dd S T v7 v8 hm65 e7 e8 hi0 hi1 hi2 hSw hTj hcn
        subst e7
        subst e8
        have hTd := hTj dd
        have hmd := hmk.2.1 dd
        refine wp_iload G 8 dX7_work_65 rfl ?_
        refine wp_iload G 6 dX7_work_67 rfl ?_
        refine wp_icmp_gt G dX7_work_69 (by omega) (by omega) (fun kq2 => ?_) (fun kq2 => ?_)
        · skip
          refine wp_aload_n G 0 dX7_work_116 rfl ?_
          refine wp_aload_n G 1 dX7_work_117 rfl ?_
          refine wp_aload_n G 2 dX7_work_118 rfl ?_
          refine wp_aload_n G 3 dX7_work_119 rfl ?_
          refine wp_iload G 4 dX7_work_120 rfl ?_
          refine wp_iload G 7 dX7_work_122 rfl ?_
          refine wp_iload G 6 dX7_work_124 rfl ?_
          refine wp_iconst G dX7_work_126 ?_
          refine wp_iadd G dX7_work_127 ?_
          refine wp_iload G 7 dX7_work_128 rfl ?_
          refine wp_isub G dX7_work_130 ?_
          refine wp_cVN (b := 45) (ci := 6) (as := [zR 2, zR r, zR r2, zI m, zI ((s : Nat) : Int), zI ((((b : Nat) : Int) + 1) - ((s : Nat) : Int))]) (rest := []) (hp2 := (nx, h, [(47, oL 2 11 (fun w => if w < 11 then S w + ((((b : Nat) : Int) + 1) - ((s : Nat) : Int)) * ofZ (tld q n ru la dy le mo ch) (tld q n ru2 la2 dy2 le2 mo2 ch2) (dueZ q n m) ((w : Nat) : Int) ((s : Nat) : Int) * ofZ (tld q n ru la dy le mo ch) (tld q n ru2 la2 dy2 le2 mo2 ch2) (dueZ q n m) ((w : Nat) : Int) ((s : Nat) : Int) else S w)), (46, oA 1 4000 T)])) G mX7_addStretch lX7_27 iX7_addStretch eX7_addStretch ⟨_, rfl, rfl⟩ dX7_work_131 h45 rfl rfl (Nat.le_of_ble_eq_true rfl) (rmx_ok hR (by decide) (by decide) (by decide) (by decide)) (t_X7_addStretch (nx := nx) (r := r) (r2 := r2) (m := m) (s := ((s : Nat) : Int)) (t := ((((b : Nat) : Int) + 1) - ((s : Nat) : Int))) (su := S) (tu := T) hQ hO h45 rfl rfl h93 (isF_lk h93 rfl hF) hK h932 (isF_lk h932 rfl hF2) hK2 ri_m (by omega) (by omega)) rfl ?_
          exact wp_vreturn G hr dX7_work_134 ⟨(fun w => if w < 11 then S w + ((((b : Nat) : Int) + 1) - ((s : Nat) : Int)) * ofZ (tld q n ru la dy le mo ch) (tld q n ru2 la2 dy2 le2 mo2 ch2) (dueZ q n m) ((w : Nat) : Int) ((s : Nat) : Int) * ofZ (tld q n ru la dy le mo ch) (tld q n ru2 la2 dy2 le2 mo2 ch2) (dueZ q n m) ((w : Nat) : Int) ((s : Nat) : Int) else S w), T, by exact wk_new (e := b + 1) (by omega) (by omega) hSw (fun t h1 h2 => hcn t h1 (by omega)), by intro j hj; rw [hTj j hj]; by_cases z : dd ≤ j; rw [if_pos z, hmk.2.2 (by omega) j (by omega)]; exact htu j hj; rw [if_neg z], rfl, rfl, by rfl⟩
        · skip
          have hTd2 := hTd (by omega)
          rw [if_pos (Nat.le_refl dd)] at hTd2
          have hmd2 := hmd (Or.inl (htu dd (by omega)))
          refine wp_aload_n G 0 dX7_work_72 rfl ?_
          refine wp_get G 0 cOk6 fX7_9 dX7_work_73 h45 rfl ?_
          refine wp_iload G 8 dX7_work_76 rfl ?_
          refine wp_zald (j := dd) G dX7_work_78 rfl rfl (by omega) (by decide) ?_
          refine wp_if_eq G dX7_work_79 (by omega) (fun kq3 => ?_) (fun kq3 => ?_)
          · skip
            refine wp_iinc (lv' := [(8, zI (((dd : Nat) : Int) + 1)), (0, zR 45), (1, zR 2), (2, zR r), (3, zR r2), (4, zI m), (5, zI ((a : Nat) : Int)), (6, zI ((b : Nat) : Int)), (7, zI ((s : Nat) : Int))]) G 8 dX7_work_110 rfl (by decide) rfl ?_
            refine wp_goto G dX7_work_113 ?_
            refine wp_lv [1, 2, 3, 4, 5, 6, 7, 8, 0] rfl ?_
            exact ih65 s (dd + 1) S T ((s : Nat) : Int) (((dd : Nat) : Int) + 1) (by omega) (by omega) (by omega) (by omega) (by omega) (by omega) (by first | exact hSw | exact wk_new (by omega) (by omega) hSw (fun t h1 h2 => hcn t h1 (by omega))) (by first | exact tj_s hTj | exact tj_k hTj (by omega)) (by first | (intro t h1 h2; have e : t = dd := (by omega); subst e; exact ⟨rfl, rfl, rfl⟩) | (exact cn_s (by omega) hcn (mkA_same (ru := ru) (ru2 := ru2) (dy := dy) (le := le) (dy2 := dy2) (le2 := le2) (tu := tu) (a := ((a : Nat) : Int)) (b := ((b : Nat) : Int)) (by omega) (by show (mkA q n m ((a : Nat) : Int) ((b : Nat) : Int) ru ru2 dy le dy2 le2 tu) dd = 0; have z := hTj dd (by omega); rw [if_pos (Nat.le_refl dd)] at z; omega))))
          · skip
            refine wp_aload_n G 0 dX7_work_82 rfl ?_
            refine wp_get G 0 cOk6 fX7_9 dX7_work_83 h45 rfl ?_
            refine wp_iload G 8 dX7_work_86 rfl ?_
            refine wp_iconst G dX7_work_88 ?_
            refine wp_zastE (j := dd) (hp2 := (nx, h, [(47, oL 2 11 S), (46, oA 1 4000 (fup T dd 0))])) G (by omega) dX7_work_89 rfl rfl (by omega) (by decide) rfl ?_
            refine wp_aload_n G 0 dX7_work_90 rfl ?_
            refine wp_aload_n G 1 dX7_work_91 rfl ?_
            refine wp_aload_n G 2 dX7_work_92 rfl ?_
            refine wp_aload_n G 3 dX7_work_93 rfl ?_
            refine wp_iload G 4 dX7_work_94 rfl ?_
            refine wp_iload G 7 dX7_work_96 rfl ?_
            refine wp_iload G 8 dX7_work_98 rfl ?_
            refine wp_iload G 7 dX7_work_100 rfl ?_
            refine wp_isub G dX7_work_102 ?_
            refine wp_cVN (b := 45) (ci := 6) (as := [zR 2, zR r, zR r2, zI m, zI ((s : Nat) : Int), zI (((dd : Nat) : Int) - ((s : Nat) : Int))]) (rest := []) (hp2 := (nx, h, [(47, oL 2 11 (fun w => if w < 11 then S w + (((dd : Nat) : Int) - ((s : Nat) : Int)) * ofZ (tld q n ru la dy le mo ch) (tld q n ru2 la2 dy2 le2 mo2 ch2) (dueZ q n m) ((w : Nat) : Int) ((s : Nat) : Int) * ofZ (tld q n ru la dy le mo ch) (tld q n ru2 la2 dy2 le2 mo2 ch2) (dueZ q n m) ((w : Nat) : Int) ((s : Nat) : Int) else S w)), (46, oA 1 4000 (fup T dd 0))])) G mX7_addStretch lX7_27 iX7_addStretch eX7_addStretch ⟨_, rfl, rfl⟩ dX7_work_103 h45 rfl rfl (Nat.le_of_ble_eq_true rfl) (rmx_ok hR (by decide) (by decide) (by decide) (by decide)) (t_X7_addStretch (nx := nx) (r := r) (r2 := r2) (m := m) (s := ((s : Nat) : Int)) (t := (((dd : Nat) : Int) - ((s : Nat) : Int))) (su := S) (tu := (fup T dd 0)) hQ hO h45 rfl rfl h93 (isF_lk h93 rfl hF) hK h932 (isF_lk h932 rfl hF2) hK2 ri_m (by omega) (by omega)) rfl ?_
            refine wp_iload G 8 dX7_work_106 rfl ?_
            refine wp_istore (lv' := [(7, zI ((dd : Nat) : Int)), (0, zR 45), (1, zR 2), (2, zR r), (3, zR r2), (4, zI m), (5, zI ((a : Nat) : Int)), (6, zI ((b : Nat) : Int)), (8, zI ((dd : Nat) : Int))]) G dX7_work_108 (by decide) rfl ?_
            refine wp_iinc (lv' := [(8, zI (((dd : Nat) : Int) + 1)), (7, zI ((dd : Nat) : Int)), (0, zR 45), (1, zR 2), (2, zR r), (3, zR r2), (4, zI m), (5, zI ((a : Nat) : Int)), (6, zI ((b : Nat) : Int))]) G 8 dX7_work_110 rfl (by decide) rfl ?_
            refine wp_goto G dX7_work_113 ?_
            refine wp_lv [2, 3, 4, 5, 6, 7, 8, 1, 0] rfl ?_
            exact ih65 dd (dd + 1) (fun w => if w < 11 then S w + (((dd : Nat) : Int) - ((s : Nat) : Int)) * ofZ (tld q n ru la dy le mo ch) (tld q n ru2 la2 dy2 le2 mo2 ch2) (dueZ q n m) ((w : Nat) : Int) ((s : Nat) : Int) * ofZ (tld q n ru la dy le mo ch) (tld q n ru2 la2 dy2 le2 mo2 ch2) (dueZ q n m) ((w : Nat) : Int) ((s : Nat) : Int) else S w) (fup T dd 0) ((dd : Nat) : Int) (((dd : Nat) : Int) + 1) (by omega) (by omega) (by omega) (by omega) (by omega) (by omega) (by first | exact hSw | exact wk_new (by omega) (by omega) hSw (fun t h1 h2 => hcn t h1 (by omega))) (by first | exact tj_s hTj | exact tj_k hTj (by omega)) (by first | (intro t h1 h2; have e : t = dd := (by omega); subst e; exact ⟨rfl, rfl, rfl⟩) | (exact cn_s (by omega) hcn (mkA_same (ru := ru) (ru2 := ru2) (dy := dy) (le := le) (dy2 := dy2) (le2 := le2) (tu := tu) (a := ((a : Nat) : Int)) (b := ((b : Nat) : Int)) (by omega) (by show (mkA q n m ((a : Nat) : Int) ((b : Nat) : Int) ru ru2 dy le dy2 le2 tu) dd = 0; have z := hTj dd (by omega); rw [if_pos (Nat.le_refl dd)] at z; omega))))
    · skip
      refine wp_aload_n G 0 dX7_work_10 rfl ?_
      refine wp_get G 1 cOk6 fX7_15 dX7_work_11 h45 rfl ?_
      refine wp_iload G 7 dX7_work_14 rfl ?_
      refine wp_lconst (z := 0) G dX7_work_16 (by decide) ?_
      refine wp_lastE (j := k) (hp2 := (nx, h, [(47, oL 2 11 (fup (fun w => if w < k then 0 else su w) k 0))])) G dX7_work_17 rfl rfl (by omega) (by decide) rfl ?_
      refine wp_iinc (lv' := [(7, zI (((k : Nat) : Int) + 1)), (0, zR 45), (1, zR 2), (2, zR r), (3, zR r2), (4, zI m), (5, zI ((a : Nat) : Int)), (6, zI ((b : Nat) : Int))]) G 7 dX7_work_18 rfl (by decide) rfl ?_
      refine wp_goto G dX7_work_21 ?_
      refine wp_lv [1, 2, 3, 4, 5, 6, 7, 0] rfl ?_
      exact ih3 (k + 1) (((k : Nat) : Int) + 1) (fup (fun w => if w < k then 0 else su w) k 0) (by omega) (by omega) (by exact z47_s su k) (by omega)

