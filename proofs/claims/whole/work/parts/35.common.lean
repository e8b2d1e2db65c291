def cmb (c : Nat → Int) : Nat → Int × Int
  | 0 => (-6, 0)
  | g + 1 => if (cmb c g).2 < c g then (((g : Nat) : Int), c g) else cmb c g
theorem cmb_y {c : Nat → Int} {g : Nat} (h : (cmb c g).2 < c g) : cmb c (g + 1) = (((g : Nat) : Int), c g) := by rw [cmb, if_pos h]
theorem cmb_n {c : Nat → Int} {g : Nat} (h : ¬ (cmb c g).2 < c g) : cmb c (g + 1) = cmb c g := by rw [cmb, if_neg h]
theorem cmb_b {c : Nat → Int} (hc : ∀ g, 0 ≤ c g ∧ c g ≤ 40) : ∀ g, 0 ≤ (cmb c g).2 ∧ (cmb c g).2 ≤ 40
  | 0 => by rw [cmb]; decide
  | g + 1 => by
    by_cases h : (cmb c g).2 < c g
    · rw [cmb_y h]; exact hc g
    · rw [cmb_n h]; exact cmb_b hc g
noncomputable def cgc (q : Nat → Nat → Int) (a b : Int) (n g : Nat) : Int := cntZ (fun j => cnd q a b j ∧ q 4 j = ((g : Nat) : Int)) n
theorem cgc_b {n : Nat} (q : Nat → Nat → Int) (a b : Int) (hn : n ≤ 40) (g : Nat) : 0 ≤ cgc q a b n g ∧ cgc q a b n g ≤ 40 := by
  have := cntZ_r (fun j => cnd q a b j ∧ q 4 j = ((g : Nat) : Int)) n
  unfold cgc
  omega
theorem t0_put {R : Nat → Int} {k : Nat} (h : ∀ t, t < k → R t = 0) : ∀ t, t < k + 1 → fup R k 0 t = 0 := by
  intro t ht
  by_cases e : t = k
  · rw [e, fup_self]
  · rw [fup_ne _ _ e]; exact h t (by omega)
theorem cg_y {q : Nat → Nat → Int} {a b : Int} {k : Nat} {R : Nat → Int} (h : ∀ t, t < 91 → R t = cgc q a b k t) (hc : cnd q a b k) (hg : 0 ≤ q 4 k ∧ q 4 k ≤ 90) : ∀ t, t < 91 → fup R (q 4 k).toNat (R (q 4 k).toNat + 1) t = cgc q a b (k + 1) t := by
  intro t ht
  by_cases e : t = (q 4 k).toNat
  · rw [e, fup_self, h _ (by omega)]
    unfold cgc
    rw [cntZ_y ⟨hc, by omega⟩]
  · rw [fup_ne _ _ e, h t ht]
    unfold cgc
    rw [cntZ_n (fun z => e (by have := z.2; omega))]
theorem cg_n {q : Nat → Nat → Int} {a b : Int} {k : Nat} {R : Nat → Int} (h : ∀ t, t < 91 → R t = cgc q a b k t) (hc : ¬ cnd q a b k) : ∀ t, t < 91 → R t = cgc q a b (k + 1) t := by
  intro t ht
  rw [h t ht]
  unfold cgc
  rw [cntZ_n (fun z => hc z.1)]

set_option maxRecDepth 100000 in
set_option maxHeartbeats 4000000 in
theorem t_X0_commonest {nx : Nat} {h : Nat → Option PC} {n : Nat} {q : Nat → Nat → Int} {o : Nat → Nat} {ta : Nat → Int} {a : Int} {b : Int} (hQ : isQ h n q o) (hO : okQ n q o) (g34 : h 34 = some (oO 0 [zR 35])) (g35 : h 35 = some (oA 0 91 ta)) (ri_a : r32 a) (ri_b : r32 b) : Cx 1 (0, 0) yX0_commonest cX0_commonest 7 (some .int) [zR 34, zR 2, zI a, zI b] nx h (fun rr nx' l' => ∃ (R : Nat → Int), rr = some (zI ((cmb (cgc q a b n) 91).1)) ∧ nx' = nx ∧ l' = [(35, oA 0 91 R)]) := by
  refine cx_of pnX0_commonest (Nat.le_of_ble_eq_true rfl) ?_
  intro K G hr hnm hR
  obtain ⟨h2, h3, h4, h5, h6, h7, h8, h9, h10⟩ := id hQ
  have hn40 := hO.1
  show Wp K 7 (Mx K h (fun rr nx' l' => ∃ (R : Nat → Int), rr = some (zI ((cmb (cgc q a b n) 91).1)) ∧ nx' = nx ∧ l' = [(35, oA 0 91 R)]) (0, 0)) (0, 0) 0 [(0, zR 34), (1, zR 2), (2, zI a), (3, zI b)] [] (nx, h, [])
  refine wp_iconst G dX0_commonest_0 ?_
  refine wp_istore (lv' := [(4, zI 0), (0, zR 34), (1, zR 2), (2, zI a), (3, zI b)]) G dX0_commonest_1 (by decide) rfl ?_
  refine wp_own (r := 35) (hp2 := (nx, h, [(35, oA 0 91 ta)])) g35 rfl ?_
  refine wp_lv [1, 2, 3, 4, 0] rfl ?_
  suffices lp3 : ∀ (fu : Nat) (k : Nat) (R : Nat → Int) (v4 : Int), 91 - k < fu → (v4 = ((k : Nat) : Int)) → (k ≤ 91) → (∀ t, t < k → R t = 0) → Wp K 7 (Mx K h (fun rr nx' l' => ∃ (R : Nat → Int), rr = some (zI ((cmb (cgc q a b n) 91).1)) ∧ nx' = nx ∧ l' = [(35, oA 0 91 R)]) (0, 0)) (0, 0) 3 [(0, zR 34), (1, zR 2), (2, zI a), (3, zI b), (4, zI v4)] [] (nx, h, [(35, oA 0 91 R)]) from lp3 _ 0 ta 0 (Nat.lt_succ_self _) (by omega) (by omega) (by intro t ht; omega)
  intro fu
  induction fu with
  | zero => intro k R v4 hm; exact absurd hm (Nat.not_lt_zero _)
  | succ fu ih3 =>
    intro k R v4 hm3 e4 hi0 h0
    subst e4
    refine wp_iload G 4 dX0_commonest_3 rfl ?_
    refine wp_bipush G dX0_commonest_5 (by decide) ?_
    refine wp_icmp_gt G dX0_commonest_7 (by omega) (by omega) (fun kq1 => ?_) (fun kq1 => ?_)
    · skip
      refine wp_iconst G dX0_commonest_24 ?_
      refine wp_istore (lv' := [(4, zI 0), (0, zR 34), (1, zR 2), (2, zI a), (3, zI b)]) G dX0_commonest_25 (by decide) rfl ?_
      refine wp_lv [1, 2, 3, 4, 0] rfl ?_
      suffices lp27 : ∀ (fu : Nat) (k : Nat) (R : Nat → Int) (v4 : Int), n - k < fu → (v4 = ((k : Nat) : Int)) → (k ≤ n) → (∀ t, t < 91 → R t = cgc q a b k t) → Wp K 7 (Mx K h (fun rr nx' l' => ∃ (R : Nat → Int), rr = some (zI ((cmb (cgc q a b n) 91).1)) ∧ nx' = nx ∧ l' = [(35, oA 0 91 R)]) (0, 0)) (0, 0) 27 [(0, zR 34), (1, zR 2), (2, zI a), (3, zI b), (4, zI v4)] [] (nx, h, [(35, oA 0 91 R)]) from lp27 _ 0 R 0 (Nat.lt_succ_self _) (by omega) (by omega) (by intro t ht; rw [h0 t (by omega)]; rfl)
      intro fu
      induction fu with
      | zero => intro k R v4 hm; exact absurd hm (Nat.not_lt_zero _)
      | succ fu ih27 =>
        intro k R v4 hm27 e4 hi0 hT
        subst e4
        have hgk0 := hO.g k
        refine wp_iload G 4 dX0_commonest_27 rfl ?_
        refine wp_aload_n G 1 dX0_commonest_29 rfl ?_
        refine wp_get G 0 cOk5 fX0_15 dX0_commonest_30 h2 rfl ?_
        refine wp_icmp_ge G dX0_commonest_33 (by omega) (by omega) (fun kq2 => ?_) (fun kq2 => ?_)
        · skip
          refine wp_bipush G dX0_commonest_69 (by decide) ?_
          refine wp_istore (lv' := [(4, zI (-6)), (0, zR 34), (1, zR 2), (2, zI a), (3, zI b)]) G dX0_commonest_71 (by decide) rfl ?_
          refine wp_iconst G dX0_commonest_73 ?_
          refine wp_istore (lv' := [(5, zI 0), (4, zI (-6)), (0, zR 34), (1, zR 2), (2, zI a), (3, zI b)]) G dX0_commonest_74 (by decide) rfl ?_
          refine wp_iconst G dX0_commonest_76 ?_
          refine wp_istore (lv' := [(6, zI 0), (5, zI 0), (4, zI (-6)), (0, zR 34), (1, zR 2), (2, zI a), (3, zI b)]) G dX0_commonest_77 (by decide) rfl ?_
          refine wp_lv [3, 4, 5, 6, 2, 1, 0] rfl ?_
          suffices lp79 : ∀ (fu : Nat) (g : Nat) (v4 : Int) (v5 : Int) (v6 : Int), 91 - g < fu → (v4 = (cmb (cgc q a b n) g).1) → (v5 = (cmb (cgc q a b n) g).2) → (v6 = ((g : Nat) : Int)) → (g ≤ 91) → Wp K 7 (Mx K h (fun rr nx' l' => ∃ (R : Nat → Int), rr = some (zI ((cmb (cgc q a b n) 91).1)) ∧ nx' = nx ∧ l' = [(35, oA 0 91 R)]) (0, 0)) (0, 0) 79 [(0, zR 34), (1, zR 2), (2, zI a), (3, zI b), (4, zI v4), (5, zI v5), (6, zI v6)] [] (nx, h, [(35, oA 0 91 R)]) from lp79 _ 0 (-6) 0 0 (Nat.lt_succ_self _) (by rfl) (by rfl) (by omega) (by omega)
          intro fu
          induction fu with
          | zero => intro g v4 v5 v6 hm; exact absurd hm (Nat.not_lt_zero _)
          | succ fu ih79 =>
            intro g v4 v5 v6 hm79 e4 e5 e6 hi0
            subst e4
            subst e5
            subst e6
            have hcb := cmb_b (c := (cgc q a b n)) (cgc_b q a b hn40) g
            refine wp_iload G 6 dX0_commonest_79 rfl ?_
            refine wp_bipush G dX0_commonest_81 (by decide) ?_
            refine wp_icmp_gt G dX0_commonest_83 (by omega) (by omega) (fun kq3 => ?_) (fun kq3 => ?_)
            · skip
              refine wp_iload G 4 dX0_commonest_117 rfl ?_
              exact wp_ireturn G hr dX0_commonest_119 ⟨R, by rw [show g = 91 by omega], rfl, by rfl⟩
            · skip
              have hTg := hT g (by omega)
              rw [show k = n by omega] at hTg
              have hcg := cgc_b q a b hn40 g
              refine wp_aload_n G 0 dX0_commonest_86 rfl ?_
              refine wp_get G 0 cOk0 fX0_9 dX0_commonest_87 g34 rfl ?_
              refine wp_iload G 6 dX0_commonest_90 rfl ?_
              refine wp_iald (j := g) G dX0_commonest_92 rfl rfl (by omega) (by decide) ?_
              rw [show ((R g) : Int) = cgc q a b n g by exact hTg]
              refine wp_iload G 5 dX0_commonest_93 rfl ?_
              refine wp_icmp_le G dX0_commonest_95 (by omega) (by omega) (fun kq4 => ?_) (fun kq4 => ?_)
              · skip
                refine wp_iinc (lv' := [(6, zI (((g : Nat) : Int) + 1)), (0, zR 34), (1, zR 2), (2, zI a), (3, zI b), (4, zI ((cmb (cgc q a b n) g).1)), (5, zI ((cmb (cgc q a b n) g).2))]) G 6 dX0_commonest_111 rfl (by decide) rfl ?_
                refine wp_goto G dX0_commonest_114 ?_
                refine wp_lv [1, 2, 3, 4, 5, 6, 0] rfl ?_
                exact ih79 (g + 1) ((cmb (cgc q a b n) g).1) ((cmb (cgc q a b n) g).2) (((g : Nat) : Int) + 1) (by omega) (by first | (rw [cmb_y (by omega)]; done) | (rw [cmb_n (by omega)])) (by first | (rw [cmb_y (by omega)]; done) | (rw [cmb_n (by omega)])) (by omega) (by omega)
              · skip
                refine wp_aload_n G 0 dX0_commonest_98 rfl ?_
                refine wp_get G 0 cOk0 fX0_9 dX0_commonest_99 g34 rfl ?_
                refine wp_iload G 6 dX0_commonest_102 rfl ?_
                refine wp_iald (j := g) G dX0_commonest_104 rfl rfl (by omega) (by decide) ?_
                rw [show ((R g) : Int) = cgc q a b n g by exact hTg]
                refine wp_istore (lv' := [(5, zI (cgc q a b n g)), (0, zR 34), (1, zR 2), (2, zI a), (3, zI b), (4, zI ((cmb (cgc q a b n) g).1)), (6, zI ((g : Nat) : Int))]) G dX0_commonest_105 (by decide) rfl ?_
                refine wp_iload G 6 dX0_commonest_107 rfl ?_
                refine wp_istore (lv' := [(4, zI ((g : Nat) : Int)), (5, zI (cgc q a b n g)), (0, zR 34), (1, zR 2), (2, zI a), (3, zI b), (6, zI ((g : Nat) : Int))]) G dX0_commonest_109 (by decide) rfl ?_
                refine wp_iinc (lv' := [(6, zI (((g : Nat) : Int) + 1)), (4, zI ((g : Nat) : Int)), (5, zI (cgc q a b n g)), (0, zR 34), (1, zR 2), (2, zI a), (3, zI b)]) G 6 dX0_commonest_111 rfl (by decide) rfl ?_
                refine wp_goto G dX0_commonest_114 ?_
                refine wp_lv [3, 4, 5, 6, 1, 2, 0] rfl ?_
                exact ih79 (g + 1) ((g : Nat) : Int) (cgc q a b n g) (((g : Nat) : Int) + 1) (by omega) (by first | (rw [cmb_y (by omega)]; done) | (rw [cmb_n (by omega)])) (by first | (rw [cmb_y (by omega)]; done) | (rw [cmb_n (by omega)])) (by omega) (by omega)
        · skip
          have hgk := hgk0 (by omega)
          refine wp_aload_n G 1 dX0_commonest_36 rfl ?_
          refine wp_iload G 4 dX0_commonest_37 rfl ?_
          refine wp_iload_n G 2 dX0_commonest_39 rfl ?_
          refine wp_iload_n G 3 dX0_commonest_40 rfl ?_
          refine wp_cVE (b := 2) (ci := 5) (as := [zI ((k : Nat) : Int), zI a, zI b]) (rest := []) (hp2 := (nx, h, [(35, oA 0 91 R)])) G mX6_isCounted lX0_21 iX6_isCounted eX6_isCounted ⟨_, rfl, rfl⟩ dX0_commonest_41 h2 rfl rfl (Nat.le_of_ble_eq_true rfl) (rmx_ok hR (by decide) (by decide) (by decide) (by decide)) (t_X6_isCounted (nx := nx) (j := k) (a := a) (b := b) hQ hO (by omega) ri_a ri_b) rfl ?_
          refine wp_ifeq_bt G dX0_commonest_44 (fun kq5 => ?_) (fun kq5 => ?_)
          · skip
            refine wp_iinc (lv' := [(4, zI (((k : Nat) : Int) + 1)), (0, zR 34), (1, zR 2), (2, zI a), (3, zI b)]) G 4 dX0_commonest_63 rfl (by decide) rfl ?_
            refine wp_goto G dX0_commonest_66 ?_
            refine wp_lv [1, 2, 3, 4, 0] rfl ?_
            exact ih27 (k + 1) R (((k : Nat) : Int) + 1) (by omega) (by omega) (by omega) (by first | exact cg_y hT (by assumption) hgk | exact cg_n hT (by assumption))
          · skip
            refine wp_aload_n G 0 dX0_commonest_47 rfl ?_
            refine wp_get G 0 cOk0 fX0_9 dX0_commonest_48 g34 rfl ?_
            refine wp_aload_n G 1 dX0_commonest_51 rfl ?_
            refine wp_get G 5 cOk5 fX0_25 dX0_commonest_52 h2 rfl ?_
            refine wp_iload G 4 dX0_commonest_55 rfl ?_
            refine wp_iald (j := k) G dX0_commonest_57 h7 rfl (by omega) (by decide) ?_
            have rrq1 := hO.g k (by omega)
            refine wp_dup2 G rfl rfl dX0_commonest_58 ?_
            refine wp_iald (j := (((q 4) k)).toNat) G dX0_commonest_59 rfl (by omega) (by omega) (by decide) ?_
            refine wp_iconst G dX0_commonest_60 ?_
            refine wp_iadd G dX0_commonest_61 ?_
            refine wp_iastE (j := (((q 4) k)).toNat) (hp2 := (nx, h, [(35, oA 0 91 (fup R ((((q 4) k)).toNat) ((R ((((q 4) k)).toNat)) + 1)))])) G dX0_commonest_62 rfl (by omega) (by omega) (by decide) rfl ?_
            refine wp_iinc (lv' := [(4, zI (((k : Nat) : Int) + 1)), (0, zR 34), (1, zR 2), (2, zI a), (3, zI b)]) G 4 dX0_commonest_63 rfl (by decide) rfl ?_
            refine wp_goto G dX0_commonest_66 ?_
            refine wp_lv [1, 2, 3, 4, 0] rfl ?_
            exact ih27 (k + 1) (fup R ((((q 4) k)).toNat) ((R ((((q 4) k)).toNat)) + 1)) (((k : Nat) : Int) + 1) (by omega) (by omega) (by omega) (by first | exact cg_y hT (by assumption) hgk | exact cg_n hT (by assumption))
    · skip
      refine wp_aload_n G 0 dX0_commonest_10 rfl ?_
      refine wp_get G 0 cOk0 fX0_9 dX0_commonest_11 g34 rfl ?_
      refine wp_iload G 4 dX0_commonest_14 rfl ?_
      refine wp_iconst G dX0_commonest_16 ?_
      refine wp_iastE (j := k) (hp2 := (nx, h, [(35, oA 0 91 (fup R k 0))])) G dX0_commonest_17 rfl rfl (by omega) (by decide) rfl ?_
      refine wp_iinc (lv' := [(4, zI (((k : Nat) : Int) + 1)), (0, zR 34), (1, zR 2), (2, zI a), (3, zI b)]) G 4 dX0_commonest_18 rfl (by decide) rfl ?_
      refine wp_goto G dX0_commonest_21 ?_
      refine wp_lv [1, 2, 3, 4, 0] rfl ?_
      exact ih3 (k + 1) (fup R k 0) (((k : Nat) : Int) + 1) (by omega) (by omega) (by omega) (by exact t0_put h0)

