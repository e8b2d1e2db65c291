theorem lst_ok {q : Nat → Nat → Int} {a : Int} {n : Nat} {R : Nat → Int} (h12 : cN q a n ≤ 12) (h : ∀ j, j < n → q 0 j = a → cN q a j < 12 → R (cN q a j) = ((j : Nat) : Int)) : ∀ i, i < cN q a n → R i = ((nthL q a n i : Nat) : Int) ∧ nthL q a n i < n := by
  intro i hi
  have h1 := nth_ok (q := q) (a := a) (i := i) n hi
  have h2 := h (nthL q a n i) h1.1 h1.2.1 (by rw [h1.2.2]; omega)
  rw [h1.2.2] at h2
  exact ⟨h2, h1.1⟩
theorem pk_fin {f : Nat → Int} {t : Int} {j mb : Nat} (hj : j ≤ mb) (h : mb ≤ j ∨ 0 ≤ pkI (pk f t j)) : pk f t j = pk f t mb := by
  rcases h with h | h
  · rw [show j = mb by omega]
  · refine (pk_stay (fun z => ?_) mb hj).symm
    rw [z] at h
    exact absurd h (by decide)
theorem pkI_r {f : Nat → Int} {t : Int} {k : Nat} (hk : k ≤ 12) : (pkI (pk f t k) = -6 ∧ pk f t k = 12) ∨ (pkI (pk f t k) = ((pk f t k : Nat) : Int) ∧ pk f t k < k) := by
  rcases pk_s (f := f) (t := t) k hk with ⟨a, _⟩ | ⟨a, _⟩
  · exact Or.inl ⟨by rw [a]; rfl, a⟩
  · exact Or.inr ⟨by unfold pkI; rw [if_neg (by omega)], a⟩
theorem pkI_s {f : Nat → Int} {t : Int} {j : Nat} (hj : j < 12) (h : pk f t j = 12) (e : f j = t) : ((j : Nat) : Int) = pkI (pk f t (j + 1)) := by
  rw [pk, if_pos ⟨h, e⟩]
  unfold pkI
  rw [if_neg (by omega)]
theorem pkI_k {f : Nat → Int} {t : Int} {j : Nat} (e : f j ≠ t) : pkI (pk f t j) = pkI (pk f t (j + 1)) := by
  rw [pk, if_neg (fun z => e z.2)]
theorem nth_ne {q : Nat → Nat → Int} {a : Int} {i x n : Nat} (hq : q 0 x = a) (hx : x < n) : i = cN q a x → nthL q a n i = x := by
  intro e
  have h3 := nth_ok (q := q) (a := a) (i := i) n (by rw [e]; exact cN_lt hq hx)
  rcases Nat.lt_trichotomy (nthL q a n i) x with z | z | z
  · have := cN_lt h3.2.1 z; omega
  · exact z
  · have := cN_lt hq z; omega

set_option maxRecDepth 100000 in
set_option maxHeartbeats 4000000 in
theorem t_X10_join {nx : Nat} {h : Nat → Option PC} {n : Nat} {q : Nat → Nat → Int} {o : Nat → Nat} {fc : Nat} {hn : Nat} {ln : Nat} {ma : Int} {mb : Int} {st : Nat → Int} {A : Nat → Int} {B : Nat → Int} {J : Nat → Int} {a : Int} {b : Int} {x : Int} (hQ : isM h n q o fc hn ln ma mb st) (hO : okQ n q o) (hN : okN st) (hJ : isMj h A B J) (ri_a : r32 a) (ri_b : r32 b) (ri_x : r32 x) : Cx 5 (0, 0) yX10_join cX10_join 11 (some .int) [zR 64, zI a, zI b, zI x] nx h (fun rr nx' l' => nx' = nx ∧ rr = some (zI (ansJ n q st a b x)) ∧ (l' = [] ∨ ∃ (A B : Nat → Int), l' = [(74, oA 0 12 A), (64, (MO n fc hn ln ((cN q a n : Nat) : Int) ((cN q b n : Nat) : Int))), (75, oA 0 12 B)] ∨ ∃ J, l' = [(74, oA 0 12 A), (64, (MO n fc hn ln ((cN q a n : Nat) : Int) ((cN q b n : Nat) : Int))), (75, oA 0 12 B), (76, oA 0 53248 J)])) := by
  refine cx_of pnX10_join (Nat.le_of_ble_eq_true rfl) ?_
  intro K G hr hnm hR
  obtain ⟨h64, h65, h66, h67, h68, h69, h70, h71, h72, h73⟩ := id hQ
  have hn40 := hO.1
  obtain ⟨hN0, hN1, hN2, hN3, hN4⟩ := id hN
  obtain ⟨h74, h75, h76⟩ := id hJ
  have hca := cN_le q a n
  have hcb := cN_le q b n
  show Wp K 11 (Mx K h (fun rr nx' l' => nx' = nx ∧ rr = some (zI (ansJ n q st a b x)) ∧ (l' = [] ∨ ∃ (A B : Nat → Int), l' = [(74, oA 0 12 A), (64, (MO n fc hn ln ((cN q a n : Nat) : Int) ((cN q b n : Nat) : Int))), (75, oA 0 12 B)] ∨ ∃ J, l' = [(74, oA 0 12 A), (64, (MO n fc hn ln ((cN q a n : Nat) : Int) ((cN q b n : Nat) : Int))), (75, oA 0 12 B), (76, oA 0 53248 J)])) (0, 0)) (0, 0) 0 [(0, zR 64), (1, zI a), (2, zI b), (3, zI x)] [] (nx, h, [])
  refine wp_iload_n G 3 dX10_join_0 rfl ?_
  refine wp_iconst G dX10_join_1 ?_
  refine wp_icmp_eq G dX10_join_2 (by omega) (by omega) (fun kq1 => ?_) (fun kq1 => ?_)
  · skip
    refine wp_iconst G dX10_join_29 ?_
    refine wp_goto G dX10_join_30 ?_
    refine wp_istore (lv' := [(4, zI 1), (0, zR 64), (1, zI a), (2, zI b), (3, zI x)]) G dX10_join_34 (by decide) rfl ?_
    refine wp_iload_n G 2 dX10_join_36 rfl ?_
    refine wp_cSE (as := [zI a]) (rest := []) (hp2 := (nx, h, [])) G mX10_isList lX10_112 sX10_isList dX10_join_37 rfl rfl (Nat.le_of_ble_eq_true rfl) (rmx_ok hR (by decide) (by decide) (by decide) (by decide)) (t_X10_isList (nx := nx) (v := a) (by omega)) rfl ?_
    refine wp_ifeq_bt G dX10_join_40 (fun kq2 => ?_) (fun kq2 => ?_)
    · skip
      refine wp_iconst G dX10_join_60 ?_
      exact wp_ireturn G hr dX10_join_61 (by exact ⟨rfl, by rw [ansJ_1 (by omega)], Or.inl rfl⟩)
    · skip
      refine wp_iload_n G 3 dX10_join_43 rfl ?_
      refine wp_cSE (as := [zI b]) (rest := []) (hp2 := (nx, h, [])) G mX10_isList lX10_112 sX10_isList dX10_join_44 rfl rfl (Nat.le_of_ble_eq_true rfl) (rmx_ok hR (by decide) (by decide) (by decide) (by decide)) (t_X10_isList (nx := nx) (v := b) (by omega)) rfl ?_
      refine wp_ifeq_bt G dX10_join_47 (fun kq3 => ?_) (fun kq3 => ?_)
      · skip
        refine wp_iconst G dX10_join_60 ?_
        exact wp_ireturn G hr dX10_join_61 (by exact ⟨rfl, by rw [ansJ_1 (by omega)], Or.inl rfl⟩)
      · skip
        refine wp_iload_n G 2 dX10_join_50 rfl ?_
        refine wp_iload_n G 3 dX10_join_51 rfl ?_
        refine wp_icmp_eq G dX10_join_52 (by omega) (by omega) (fun kq4 => ?_) (fun kq4 => ?_)
        · skip
          refine wp_iconst G dX10_join_60 ?_
          exact wp_ireturn G hr dX10_join_61 (by exact ⟨rfl, by rw [ansJ_1 (by omega)], Or.inl rfl⟩)
        · skip
          refine wp_iload G 0 dX10_join_55 rfl ?_
          refine wp_if_ne G dX10_join_57 (by omega) (fun _ => ?_) (fun z => by exfalso; omega)
          refine wp_aload_n G 1 dX10_join_62 rfl ?_
          refine wp_aload_n G 1 dX10_join_63 rfl ?_
          refine wp_iload_n G 2 dX10_join_64 rfl ?_
          refine wp_iconst G dX10_join_65 ?_
          refine wp_callV (mm := (0, 0)) (b := 64) (ci := 9) (as := [zI a, zI 1]) (rest := [zR 64]) G mX10_listed lX10_160 iX10_listed eX10_listed ⟨_, rfl, rfl⟩ dX10_join_66 h64 rfl rfl (Nat.le_of_ble_eq_true rfl) (rmx_ok hR (by decide) (by decide) (by decide) (by decide)) (t_X10_listedA (nx := nx) (a := a) hQ hO hN hJ ri_a) (fun rr nx' l' hq => ?_)
          obtain ⟨Ra , hx_a0 , rfl , enx , rfl⟩ := hq
          subst nx'
          show Wp K 11 (Mx K h (fun rr nx' l' => nx' = nx ∧ rr = some (zI (ansJ n q st a b x)) ∧ (l' = [] ∨ ∃ (A B : Nat → Int), l' = [(74, oA 0 12 A), (64, (MO n fc hn ln ((cN q a n : Nat) : Int) ((cN q b n : Nat) : Int))), (75, oA 0 12 B)] ∨ ∃ J, l' = [(74, oA 0 12 A), (64, (MO n fc hn ln ((cN q a n : Nat) : Int) ((cN q b n : Nat) : Int))), (75, oA 0 12 B), (76, oA 0 53248 J)])) (0, 0)) (0, 0) 69 [(4, zI 1), (0, zR 64), (1, zI a), (2, zI b), (3, zI x)] [zI ((cN q a n : Nat) : Int), zR 64] (nx, h, [(74, oA 0 12 Ra)])
          refine wp_putE (hp2 := (nx, h, [(74, oA 0 12 Ra), (64, oO 9 [zR 65, zR 66, zR 67, zR 68, zR 69, zR 70, zR 71, zI ((n : Nat) : Int), zR 72, zR 73, zR 74, zR 75, zI ((cN q a n : Nat) : Int), zI mb, zR 76, zR 77, zR 78, zR 79, zR 80, zR 81, zI ((fc : Nat) : Int), zR 82, zR 83, zR 84, zR 85, zR 86, zR 87, zI ((hn : Nat) : Int), zR 88, zR 89, zR 90, zR 91, zR 92, zI ((ln : Nat) : Int)])])) G 12 cOk9 fX10_153 dX10_join_69 h64 (Nat.le_of_ble_eq_true rfl) (fit_int _) (fun _ e => by cases e; rfl) rfl ?_
          refine wp_aload_n G 1 dX10_join_72 rfl ?_
          refine wp_aload_n G 1 dX10_join_73 rfl ?_
          refine wp_iload_n G 3 dX10_join_74 rfl ?_
          refine wp_iconst G dX10_join_75 ?_
          refine wp_callV (mm := (0, 0)) (b := 64) (ci := 9) (as := [zI b, zI 0]) (rest := [zR 64]) G mX10_listed lX10_160 iX10_listed eX10_listed ⟨_, rfl, rfl⟩ dX10_join_76 rfl rfl rfl (Nat.le_of_ble_eq_true rfl) (rmx_ok hR (by decide) (by decide) (by decide) (by decide)) (t_X10_listedB (nx := nx) (a := b) (ma := ((cN q a n : Nat) : Int)) (A := Ra) ⟨rfl, h65, h66, h67, h68, h69, h70, h71, h72, h73⟩ hO hN ⟨rfl, h75, h76⟩ ri_b) (fun rr nx' l' hq => ?_)
          obtain ⟨Rb , hx_b0 , rfl , enx , rfl⟩ := hq
          subst nx'
          show Wp K 11 (Mx K h (fun rr nx' l' => nx' = nx ∧ rr = some (zI (ansJ n q st a b x)) ∧ (l' = [] ∨ ∃ (A B : Nat → Int), l' = [(74, oA 0 12 A), (64, (MO n fc hn ln ((cN q a n : Nat) : Int) ((cN q b n : Nat) : Int))), (75, oA 0 12 B)] ∨ ∃ J, l' = [(74, oA 0 12 A), (64, (MO n fc hn ln ((cN q a n : Nat) : Int) ((cN q b n : Nat) : Int))), (75, oA 0 12 B), (76, oA 0 53248 J)])) (0, 0)) (0, 0) 79 [(4, zI 1), (0, zR 64), (1, zI a), (2, zI b), (3, zI x)] [zI ((cN q b n : Nat) : Int), zR 64] (nx, h, [(74, oA 0 12 Ra), (64, oO 9 [zR 65, zR 66, zR 67, zR 68, zR 69, zR 70, zR 71, zI ((n : Nat) : Int), zR 72, zR 73, zR 74, zR 75, zI ((cN q a n : Nat) : Int), zI mb, zR 76, zR 77, zR 78, zR 79, zR 80, zR 81, zI ((fc : Nat) : Int), zR 82, zR 83, zR 84, zR 85, zR 86, zR 87, zI ((hn : Nat) : Int), zR 88, zR 89, zR 90, zR 91, zR 92, zI ((ln : Nat) : Int)]), (75, oA 0 12 Rb)])
          refine wp_putE (hp2 := (nx, h, [(74, oA 0 12 Ra), (64, oO 9 [zR 65, zR 66, zR 67, zR 68, zR 69, zR 70, zR 71, zI ((n : Nat) : Int), zR 72, zR 73, zR 74, zR 75, zI ((cN q a n : Nat) : Int), zI ((cN q b n : Nat) : Int), zR 76, zR 77, zR 78, zR 79, zR 80, zR 81, zI ((fc : Nat) : Int), zR 82, zR 83, zR 84, zR 85, zR 86, zR 87, zI ((hn : Nat) : Int), zR 88, zR 89, zR 90, zR 91, zR 92, zI ((ln : Nat) : Int)]), (75, oA 0 12 Rb)])) G 13 cOk9 fX10_150 dX10_join_79 rfl (Nat.le_of_ble_eq_true rfl) (fit_int _) (fun _ e => by cases e; rfl) rfl ?_
          refine wp_aload_n G 1 dX10_join_82 rfl ?_
          refine wp_get G 12 cOk9 fX10_153 dX10_join_83 rfl rfl ?_
          refine wp_bipush G dX10_join_86 (by decide) ?_
          refine wp_icmp_gt G dX10_join_88 (by omega) (by omega) (fun kq6 => ?_) (fun kq6 => ?_)
          · skip
            refine wp_bipush G dX10_join_100 (by decide) ?_
            exact wp_ireturn G hr dX10_join_102 (by exact ⟨rfl, by rw [ansJ_5 (by omega) (by omega)], Or.inr ⟨_, _, Or.inl rfl⟩⟩)
          · skip
            refine wp_aload_n G 1 dX10_join_91 rfl ?_
            refine wp_get G 13 cOk9 fX10_150 dX10_join_92 rfl rfl ?_
            refine wp_bipush G dX10_join_95 (by decide) ?_
            refine wp_icmp_le G dX10_join_97 (by omega) (by omega) (fun kq7 => ?_) (fun kq7 => ?_)
            · skip
              have ha12 : cN q a n ≤ 12 := by omega
              have hb12 : cN q b n ≤ 12 := by omega
              have hA2 := lst_ok ha12 hx_a0
              have hB2 := lst_ok hb12 hx_b0
              have hXb := XJ_b (q := q) (la := nthL q a n) (lb := nthL q b n) hN
              have hX2 : ∀ i j, (XJ q st (nthL q a n) (nthL q b n)) i j ≤ 35 := fun i j => (hXb i j).2
              refine wp_aload_n G 1 dX10_join_103 rfl ?_
              refine wp_callV (mm := (0, 0)) (b := 64) (ci := 9) (as := []) (rest := []) G mX10_findJoins lX10_164 iX10_findJoins eX10_findJoins ⟨_, rfl, rfl⟩ dX10_join_104 rfl rfl rfl (Nat.le_of_ble_eq_true rfl) (rmx_ok hR (by decide) (by decide) (by decide) (by decide)) (t_X10_findJoins (nx := nx) (ma := (cN q a n)) (mb := (cN q b n)) (la := (nthL q a n)) (lb := (nthL q b n)) (A := Ra) (B := Rb) ⟨rfl, h65, h66, h67, h68, h69, h70, h71, h72, h73⟩ hO hN ⟨rfl, rfl, h76⟩ (by omega) (by omega) hA2 hB2) (fun rr nx' l' hq => ?_)
              obtain ⟨Rc , hx_c0 , rfl , enx , rfl⟩ := hq
              subst nx'
              show Wp K 11 (Mx K h (fun rr nx' l' => nx' = nx ∧ rr = some (zI (ansJ n q st a b x)) ∧ (l' = [] ∨ ∃ (A B : Nat → Int), l' = [(74, oA 0 12 A), (64, (MO n fc hn ln ((cN q a n : Nat) : Int) ((cN q b n : Nat) : Int))), (75, oA 0 12 B)] ∨ ∃ J, l' = [(74, oA 0 12 A), (64, (MO n fc hn ln ((cN q a n : Nat) : Int) ((cN q b n : Nat) : Int))), (75, oA 0 12 B), (76, oA 0 53248 J)])) (0, 0)) (0, 0) 107 [(4, zI 1), (0, zR 64), (1, zI a), (2, zI b), (3, zI x)] [] (nx, h, [(74, oA 0 12 Ra), (64, oO 9 [zR 65, zR 66, zR 67, zR 68, zR 69, zR 70, zR 71, zI ((n : Nat) : Int), zR 72, zR 73, zR 74, zR 75, zI ((cN q a n : Nat) : Int), zI ((cN q b n : Nat) : Int), zR 76, zR 77, zR 78, zR 79, zR 80, zR 81, zI ((fc : Nat) : Int), zR 82, zR 83, zR 84, zR 85, zR 86, zR 87, zI ((hn : Nat) : Int), zR 88, zR 89, zR 90, zR 91, zR 92, zI ((ln : Nat) : Int)]), (75, oA 0 12 Rb), (76, oA 0 53248 Rc)])
              have hbj := bj_b (ma := cN q a n) (mb := cN q b n) hX2 (cN q a n) 0
              have hvl : 10000 * jn (ch (XJ q st (nthL q a n) (nthL q b n)) (cN q a n) (cN q b n)) (cN q a n) (cN q a n) - mn (XJ q st (nthL q a n) (nthL q b n)) (ch (XJ q st (nthL q a n) (nthL q b n)) (cN q a n) (cN q b n)) (cN q a n) (cN q a n) = bj (XJ q st (nthL q a n) (nthL q b n)) (cN q a n) (cN q b n) (cN q a n) 0 := by have z := vl_ch (ma := cN q a n) (mb := cN q b n) hX2 hb12 (cN q a n) (Nat.le_refl _); rw [Nat.sub_self] at z; exact z
              have hjr := jm_r (ma := cN q a n) (mb := cN q b n) hX2 (ch_va hX2 hb12) (cN q a n) (Nat.le_refl _)
              refine wp_aload_n G 1 dX10_join_107 rfl ?_
              refine wp_get G 14 cOk9 fX10_45 dX10_join_108 rfl rfl ?_
              refine wp_iconst G dX10_join_111 ?_
              refine wp_iald (j := 0) G dX10_join_112 rfl rfl (by decide) (by decide) ?_
              rw [show ((Rc 0) : Int) = (bj (XJ q st (nthL q a n) (nthL q b n)) (cN q a n) (cN q b n) (cN q a n) 0) from hx_c0 0 (Nat.le_refl _) (Nat.zero_le _) 0 (Nat.pow_pos (by decide))]
              refine wp_istore (lv' := [(5, zI (bj (XJ q st (nthL q a n) (nthL q b n)) (cN q a n) (cN q b n) (cN q a n) 0)), (4, zI 1), (0, zR 64), (1, zI a), (2, zI b), (3, zI x)]) G dX10_join_113 (by decide) rfl ?_
              refine wp_iload G 0 dX10_join_115 rfl ?_
              refine wp_sipush G dX10_join_117 (by decide) ?_
              refine wp_iadd G dX10_join_120 ?_
              refine wp_sipush G dX10_join_121 (by decide) ?_
              refine wp_idiv G (by omega) (by omega) (by omega) (by omega) dX10_join_124 ?_
              refine wp_istore (lv' := [(6, zI (((bj (XJ q st (nthL q a n) (nthL q b n)) (cN q a n) (cN q b n) (cN q a n) 0) + 9999) / 10000)), (5, zI (bj (XJ q st (nthL q a n) (nthL q b n)) (cN q a n) (cN q b n) (cN q a n) 0)), (4, zI 1), (0, zR 64), (1, zI a), (2, zI b), (3, zI x)]) G dX10_join_125 (by decide) rfl ?_
              refine wp_iload_n G 6 dX10_join_127 rfl ?_
              refine wp_if_ge G dX10_join_128 (by omega) (fun kq8 => ?_) (fun kq8 => ?_)
              · skip
                exfalso; omega
              · skip
                refine wp_iload_n G 6 dX10_join_131 rfl ?_
                refine wp_iconst G dX10_join_132 ?_
                refine wp_icmp_ne G dX10_join_133 (by omega) (by omega) (fun kq9 => ?_) (fun kq9 => ?_)
                · skip
                  refine wp_sipush G dX10_join_141 (by decide) ?_
                  refine wp_iload G 0 dX10_join_144 rfl ?_
                  refine wp_imul G dX10_join_146 ?_
                  refine wp_iload G 1 dX10_join_147 rfl ?_
                  refine wp_isub G dX10_join_149 ?_
                  exact wp_ireturn G hr dX10_join_150 (by first | exact ⟨rfl, by rw [ansJ_a (by omega) (by omega) (by omega)]; exact congrArg (fun z => some (zI z)) (by omega), Or.inr ⟨_, _, Or.inr ⟨_, rfl⟩⟩⟩ | exact ⟨rfl, by rw [ansJ_b (by omega) (by omega) (by omega)]; exact congrArg (fun z => some (zI z)) (by omega), Or.inr ⟨_, _, Or.inr ⟨_, rfl⟩⟩⟩ | (exfalso; omega))
                · skip
                  refine wp_iload G 0 dX10_join_136 rfl ?_
                  refine wp_goto G dX10_join_138 ?_
                  exact wp_ireturn G hr dX10_join_150 (by first | exact ⟨rfl, by rw [ansJ_a (by omega) (by omega) (by omega)]; exact congrArg (fun z => some (zI z)) (by omega), Or.inr ⟨_, _, Or.inr ⟨_, rfl⟩⟩⟩ | exact ⟨rfl, by rw [ansJ_b (by omega) (by omega) (by omega)]; exact congrArg (fun z => some (zI z)) (by omega), Or.inr ⟨_, _, Or.inr ⟨_, rfl⟩⟩⟩ | (exfalso; omega))
            · skip
              refine wp_bipush G dX10_join_100 (by decide) ?_
              exact wp_ireturn G hr dX10_join_102 (by exact ⟨rfl, by rw [ansJ_5 (by omega) (by omega)], Or.inr ⟨_, _, Or.inl rfl⟩⟩)
  · skip
    refine wp_iload_n G 3 dX10_join_5 rfl ?_
    refine wp_bipush G dX10_join_6 (by decide) ?_
    refine wp_icmp_eq G dX10_join_8 (by omega) (by omega) (fun kq10 => ?_) (fun kq10 => ?_)
    · skip
      refine wp_iconst G dX10_join_29 ?_
      refine wp_goto G dX10_join_30 ?_
      refine wp_istore (lv' := [(4, zI 1), (0, zR 64), (1, zI a), (2, zI b), (3, zI x)]) G dX10_join_34 (by decide) rfl ?_
      refine wp_iload_n G 2 dX10_join_36 rfl ?_
      refine wp_cSE (as := [zI a]) (rest := []) (hp2 := (nx, h, [])) G mX10_isList lX10_112 sX10_isList dX10_join_37 rfl rfl (Nat.le_of_ble_eq_true rfl) (rmx_ok hR (by decide) (by decide) (by decide) (by decide)) (t_X10_isList (nx := nx) (v := a) (by omega)) rfl ?_
      refine wp_ifeq_bt G dX10_join_40 (fun kq11 => ?_) (fun kq11 => ?_)
      · skip
        refine wp_iconst G dX10_join_60 ?_
        exact wp_ireturn G hr dX10_join_61 (by exact ⟨rfl, by rw [ansJ_1 (by omega)], Or.inl rfl⟩)
      · skip
        refine wp_iload_n G 3 dX10_join_43 rfl ?_
        refine wp_cSE (as := [zI b]) (rest := []) (hp2 := (nx, h, [])) G mX10_isList lX10_112 sX10_isList dX10_join_44 rfl rfl (Nat.le_of_ble_eq_true rfl) (rmx_ok hR (by decide) (by decide) (by decide) (by decide)) (t_X10_isList (nx := nx) (v := b) (by omega)) rfl ?_
        refine wp_ifeq_bt G dX10_join_47 (fun kq12 => ?_) (fun kq12 => ?_)
        · skip
          refine wp_iconst G dX10_join_60 ?_
          exact wp_ireturn G hr dX10_join_61 (by exact ⟨rfl, by rw [ansJ_1 (by omega)], Or.inl rfl⟩)
        · skip
          refine wp_iload_n G 2 dX10_join_50 rfl ?_
          refine wp_iload_n G 3 dX10_join_51 rfl ?_
          refine wp_icmp_eq G dX10_join_52 (by omega) (by omega) (fun kq13 => ?_) (fun kq13 => ?_)
          · skip
            refine wp_iconst G dX10_join_60 ?_
            exact wp_ireturn G hr dX10_join_61 (by exact ⟨rfl, by rw [ansJ_1 (by omega)], Or.inl rfl⟩)
          · skip
            refine wp_iload G 0 dX10_join_55 rfl ?_
            refine wp_if_ne G dX10_join_57 (by omega) (fun _ => ?_) (fun z => by exfalso; omega)
            refine wp_aload_n G 1 dX10_join_62 rfl ?_
            refine wp_aload_n G 1 dX10_join_63 rfl ?_
            refine wp_iload_n G 2 dX10_join_64 rfl ?_
            refine wp_iconst G dX10_join_65 ?_
            refine wp_callV (mm := (0, 0)) (b := 64) (ci := 9) (as := [zI a, zI 1]) (rest := [zR 64]) G mX10_listed lX10_160 iX10_listed eX10_listed ⟨_, rfl, rfl⟩ dX10_join_66 h64 rfl rfl (Nat.le_of_ble_eq_true rfl) (rmx_ok hR (by decide) (by decide) (by decide) (by decide)) (t_X10_listedA (nx := nx) (a := a) hQ hO hN hJ ri_a) (fun rr nx' l' hq => ?_)
            obtain ⟨Ra , hx_a0 , rfl , enx , rfl⟩ := hq
            subst nx'
            show Wp K 11 (Mx K h (fun rr nx' l' => nx' = nx ∧ rr = some (zI (ansJ n q st a b x)) ∧ (l' = [] ∨ ∃ (A B : Nat → Int), l' = [(74, oA 0 12 A), (64, (MO n fc hn ln ((cN q a n : Nat) : Int) ((cN q b n : Nat) : Int))), (75, oA 0 12 B)] ∨ ∃ J, l' = [(74, oA 0 12 A), (64, (MO n fc hn ln ((cN q a n : Nat) : Int) ((cN q b n : Nat) : Int))), (75, oA 0 12 B), (76, oA 0 53248 J)])) (0, 0)) (0, 0) 69 [(4, zI 1), (0, zR 64), (1, zI a), (2, zI b), (3, zI x)] [zI ((cN q a n : Nat) : Int), zR 64] (nx, h, [(74, oA 0 12 Ra)])
            refine wp_putE (hp2 := (nx, h, [(74, oA 0 12 Ra), (64, oO 9 [zR 65, zR 66, zR 67, zR 68, zR 69, zR 70, zR 71, zI ((n : Nat) : Int), zR 72, zR 73, zR 74, zR 75, zI ((cN q a n : Nat) : Int), zI mb, zR 76, zR 77, zR 78, zR 79, zR 80, zR 81, zI ((fc : Nat) : Int), zR 82, zR 83, zR 84, zR 85, zR 86, zR 87, zI ((hn : Nat) : Int), zR 88, zR 89, zR 90, zR 91, zR 92, zI ((ln : Nat) : Int)])])) G 12 cOk9 fX10_153 dX10_join_69 h64 (Nat.le_of_ble_eq_true rfl) (fit_int _) (fun _ e => by cases e; rfl) rfl ?_
            refine wp_aload_n G 1 dX10_join_72 rfl ?_
            refine wp_aload_n G 1 dX10_join_73 rfl ?_
            refine wp_iload_n G 3 dX10_join_74 rfl ?_
            refine wp_iconst G dX10_join_75 ?_
            refine wp_callV (mm := (0, 0)) (b := 64) (ci := 9) (as := [zI b, zI 0]) (rest := [zR 64]) G mX10_listed lX10_160 iX10_listed eX10_listed ⟨_, rfl, rfl⟩ dX10_join_76 rfl rfl rfl (Nat.le_of_ble_eq_true rfl) (rmx_ok hR (by decide) (by decide) (by decide) (by decide)) (t_X10_listedB (nx := nx) (a := b) (ma := ((cN q a n : Nat) : Int)) (A := Ra) ⟨rfl, h65, h66, h67, h68, h69, h70, h71, h72, h73⟩ hO hN ⟨rfl, h75, h76⟩ ri_b) (fun rr nx' l' hq => ?_)
            obtain ⟨Rb , hx_b0 , rfl , enx , rfl⟩ := hq
            subst nx'
            show Wp K 11 (Mx K h (fun rr nx' l' => nx' = nx ∧ rr = some (zI (ansJ n q st a b x)) ∧ (l' = [] ∨ ∃ (A B : Nat → Int), l' = [(74, oA 0 12 A), (64, (MO n fc hn ln ((cN q a n : Nat) : Int) ((cN q b n : Nat) : Int))), (75, oA 0 12 B)] ∨ ∃ J, l' = [(74, oA 0 12 A), (64, (MO n fc hn ln ((cN q a n : Nat) : Int) ((cN q b n : Nat) : Int))), (75, oA 0 12 B), (76, oA 0 53248 J)])) (0, 0)) (0, 0) 79 [(4, zI 1), (0, zR 64), (1, zI a), (2, zI b), (3, zI x)] [zI ((cN q b n : Nat) : Int), zR 64] (nx, h, [(74, oA 0 12 Ra), (64, oO 9 [zR 65, zR 66, zR 67, zR 68, zR 69, zR 70, zR 71, zI ((n : Nat) : Int), zR 72, zR 73, zR 74, zR 75, zI ((cN q a n : Nat) : Int), zI mb, zR 76, zR 77, zR 78, zR 79, zR 80, zR 81, zI ((fc : Nat) : Int), zR 82, zR 83, zR 84, zR 85, zR 86, zR 87, zI ((hn : Nat) : Int), zR 88, zR 89, zR 90, zR 91, zR 92, zI ((ln : Nat) : Int)]), (75, oA 0 12 Rb)])
            refine wp_putE (hp2 := (nx, h, [(74, oA 0 12 Ra), (64, oO 9 [zR 65, zR 66, zR 67, zR 68, zR 69, zR 70, zR 71, zI ((n : Nat) : Int), zR 72, zR 73, zR 74, zR 75, zI ((cN q a n : Nat) : Int), zI ((cN q b n : Nat) : Int), zR 76, zR 77, zR 78, zR 79, zR 80, zR 81, zI ((fc : Nat) : Int), zR 82, zR 83, zR 84, zR 85, zR 86, zR 87, zI ((hn : Nat) : Int), zR 88, zR 89, zR 90, zR 91, zR 92, zI ((ln : Nat) : Int)]), (75, oA 0 12 Rb)])) G 13 cOk9 fX10_150 dX10_join_79 rfl (Nat.le_of_ble_eq_true rfl) (fit_int _) (fun _ e => by cases e; rfl) rfl ?_
            refine wp_aload_n G 1 dX10_join_82 rfl ?_
            refine wp_get G 12 cOk9 fX10_153 dX10_join_83 rfl rfl ?_
            refine wp_bipush G dX10_join_86 (by decide) ?_
            refine wp_icmp_gt G dX10_join_88 (by omega) (by omega) (fun kq15 => ?_) (fun kq15 => ?_)
            · skip
              refine wp_bipush G dX10_join_100 (by decide) ?_
              exact wp_ireturn G hr dX10_join_102 (by exact ⟨rfl, by rw [ansJ_5 (by omega) (by omega)], Or.inr ⟨_, _, Or.inl rfl⟩⟩)
            · skip
              refine wp_aload_n G 1 dX10_join_91 rfl ?_
              refine wp_get G 13 cOk9 fX10_150 dX10_join_92 rfl rfl ?_
              refine wp_bipush G dX10_join_95 (by decide) ?_
              refine wp_icmp_le G dX10_join_97 (by omega) (by omega) (fun kq16 => ?_) (fun kq16 => ?_)
              · skip
                have ha12 : cN q a n ≤ 12 := by omega
                have hb12 : cN q b n ≤ 12 := by omega
                have hA2 := lst_ok ha12 hx_a0
                have hB2 := lst_ok hb12 hx_b0
                have hXb := XJ_b (q := q) (la := nthL q a n) (lb := nthL q b n) hN
                have hX2 : ∀ i j, (XJ q st (nthL q a n) (nthL q b n)) i j ≤ 35 := fun i j => (hXb i j).2
                refine wp_aload_n G 1 dX10_join_103 rfl ?_
                refine wp_callV (mm := (0, 0)) (b := 64) (ci := 9) (as := []) (rest := []) G mX10_findJoins lX10_164 iX10_findJoins eX10_findJoins ⟨_, rfl, rfl⟩ dX10_join_104 rfl rfl rfl (Nat.le_of_ble_eq_true rfl) (rmx_ok hR (by decide) (by decide) (by decide) (by decide)) (t_X10_findJoins (nx := nx) (ma := (cN q a n)) (mb := (cN q b n)) (la := (nthL q a n)) (lb := (nthL q b n)) (A := Ra) (B := Rb) ⟨rfl, h65, h66, h67, h68, h69, h70, h71, h72, h73⟩ hO hN ⟨rfl, rfl, h76⟩ (by omega) (by omega) hA2 hB2) (fun rr nx' l' hq => ?_)
                obtain ⟨Rc , hx_c0 , rfl , enx , rfl⟩ := hq
                subst nx'
                show Wp K 11 (Mx K h (fun rr nx' l' => nx' = nx ∧ rr = some (zI (ansJ n q st a b x)) ∧ (l' = [] ∨ ∃ (A B : Nat → Int), l' = [(74, oA 0 12 A), (64, (MO n fc hn ln ((cN q a n : Nat) : Int) ((cN q b n : Nat) : Int))), (75, oA 0 12 B)] ∨ ∃ J, l' = [(74, oA 0 12 A), (64, (MO n fc hn ln ((cN q a n : Nat) : Int) ((cN q b n : Nat) : Int))), (75, oA 0 12 B), (76, oA 0 53248 J)])) (0, 0)) (0, 0) 107 [(4, zI 1), (0, zR 64), (1, zI a), (2, zI b), (3, zI x)] [] (nx, h, [(74, oA 0 12 Ra), (64, oO 9 [zR 65, zR 66, zR 67, zR 68, zR 69, zR 70, zR 71, zI ((n : Nat) : Int), zR 72, zR 73, zR 74, zR 75, zI ((cN q a n : Nat) : Int), zI ((cN q b n : Nat) : Int), zR 76, zR 77, zR 78, zR 79, zR 80, zR 81, zI ((fc : Nat) : Int), zR 82, zR 83, zR 84, zR 85, zR 86, zR 87, zI ((hn : Nat) : Int), zR 88, zR 89, zR 90, zR 91, zR 92, zI ((ln : Nat) : Int)]), (75, oA 0 12 Rb), (76, oA 0 53248 Rc)])
                have hbj := bj_b (ma := cN q a n) (mb := cN q b n) hX2 (cN q a n) 0
                have hvl : 10000 * jn (ch (XJ q st (nthL q a n) (nthL q b n)) (cN q a n) (cN q b n)) (cN q a n) (cN q a n) - mn (XJ q st (nthL q a n) (nthL q b n)) (ch (XJ q st (nthL q a n) (nthL q b n)) (cN q a n) (cN q b n)) (cN q a n) (cN q a n) = bj (XJ q st (nthL q a n) (nthL q b n)) (cN q a n) (cN q b n) (cN q a n) 0 := by have z := vl_ch (ma := cN q a n) (mb := cN q b n) hX2 hb12 (cN q a n) (Nat.le_refl _); rw [Nat.sub_self] at z; exact z
                have hjr := jm_r (ma := cN q a n) (mb := cN q b n) hX2 (ch_va hX2 hb12) (cN q a n) (Nat.le_refl _)
                refine wp_aload_n G 1 dX10_join_107 rfl ?_
                refine wp_get G 14 cOk9 fX10_45 dX10_join_108 rfl rfl ?_
                refine wp_iconst G dX10_join_111 ?_
                refine wp_iald (j := 0) G dX10_join_112 rfl rfl (by decide) (by decide) ?_
                rw [show ((Rc 0) : Int) = (bj (XJ q st (nthL q a n) (nthL q b n)) (cN q a n) (cN q b n) (cN q a n) 0) from hx_c0 0 (Nat.le_refl _) (Nat.zero_le _) 0 (Nat.pow_pos (by decide))]
                refine wp_istore (lv' := [(5, zI (bj (XJ q st (nthL q a n) (nthL q b n)) (cN q a n) (cN q b n) (cN q a n) 0)), (4, zI 1), (0, zR 64), (1, zI a), (2, zI b), (3, zI x)]) G dX10_join_113 (by decide) rfl ?_
                refine wp_iload G 0 dX10_join_115 rfl ?_
                refine wp_sipush G dX10_join_117 (by decide) ?_
                refine wp_iadd G dX10_join_120 ?_
                refine wp_sipush G dX10_join_121 (by decide) ?_
                refine wp_idiv G (by omega) (by omega) (by omega) (by omega) dX10_join_124 ?_
                refine wp_istore (lv' := [(6, zI (((bj (XJ q st (nthL q a n) (nthL q b n)) (cN q a n) (cN q b n) (cN q a n) 0) + 9999) / 10000)), (5, zI (bj (XJ q st (nthL q a n) (nthL q b n)) (cN q a n) (cN q b n) (cN q a n) 0)), (4, zI 1), (0, zR 64), (1, zI a), (2, zI b), (3, zI x)]) G dX10_join_125 (by decide) rfl ?_
                refine wp_iload_n G 6 dX10_join_127 rfl ?_
                refine wp_if_ge G dX10_join_128 (by omega) (fun kq17 => ?_) (fun kq17 => ?_)
                · skip
                  exfalso; omega
                · skip
                  refine wp_iload_n G 6 dX10_join_131 rfl ?_
                  refine wp_iconst G dX10_join_132 ?_
                  refine wp_icmp_ne G dX10_join_133 (by omega) (by omega) (fun kq18 => ?_) (fun kq18 => ?_)
                  · skip
                    refine wp_sipush G dX10_join_141 (by decide) ?_
                    refine wp_iload G 0 dX10_join_144 rfl ?_
                    refine wp_imul G dX10_join_146 ?_
                    refine wp_iload G 1 dX10_join_147 rfl ?_
                    refine wp_isub G dX10_join_149 ?_
                    exact wp_ireturn G hr dX10_join_150 (by first | exact ⟨rfl, by rw [ansJ_a (by omega) (by omega) (by omega)]; exact congrArg (fun z => some (zI z)) (by omega), Or.inr ⟨_, _, Or.inr ⟨_, rfl⟩⟩⟩ | exact ⟨rfl, by rw [ansJ_b (by omega) (by omega) (by omega)]; exact congrArg (fun z => some (zI z)) (by omega), Or.inr ⟨_, _, Or.inr ⟨_, rfl⟩⟩⟩ | (exfalso; omega))
                  · skip
                    refine wp_iload G 0 dX10_join_136 rfl ?_
                    refine wp_goto G dX10_join_138 ?_
                    exact wp_ireturn G hr dX10_join_150 (by first | exact ⟨rfl, by rw [ansJ_a (by omega) (by omega) (by omega)]; exact congrArg (fun z => some (zI z)) (by omega), Or.inr ⟨_, _, Or.inr ⟨_, rfl⟩⟩⟩ | exact ⟨rfl, by rw [ansJ_b (by omega) (by omega) (by omega)]; exact congrArg (fun z => some (zI z)) (by omega), Or.inr ⟨_, _, Or.inr ⟨_, rfl⟩⟩⟩ | (exfalso; omega))
              · skip
                refine wp_bipush G dX10_join_100 (by decide) ?_
                exact wp_ireturn G hr dX10_join_102 (by exact ⟨rfl, by rw [ansJ_5 (by omega) (by omega)], Or.inr ⟨_, _, Or.inl rfl⟩⟩)
    · skip
      refine wp_aload_n G 0 dX10_join_11 rfl ?_
      refine wp_iload_n G 3 dX10_join_12 rfl ?_
      refine wp_cVE (b := 64) (ci := 9) (as := [zI x]) (rest := []) (hp2 := (nx, h, [])) G mX10_isQuake lX10_126 iX10_isQuake eX10_isQuake ⟨_, rfl, rfl⟩ dX10_join_13 h64 rfl rfl (Nat.le_of_ble_eq_true rfl) (rmx_ok hR (by decide) (by decide) (by decide) (by decide)) (t_X10_isQuake (nx := nx) (v := x) hQ hO hN (by omega)) rfl ?_
      refine wp_ifeq_bt G dX10_join_16 (fun kq19 => ?_) (fun kq19 => ?_)
      · skip
        refine wp_iconst G dX10_join_33 ?_
        refine wp_istore (lv' := [(4, zI 0), (0, zR 64), (1, zI a), (2, zI b), (3, zI x)]) G dX10_join_34 (by decide) rfl ?_
        refine wp_iload_n G 2 dX10_join_36 rfl ?_
        refine wp_cSE (as := [zI a]) (rest := []) (hp2 := (nx, h, [])) G mX10_isList lX10_112 sX10_isList dX10_join_37 rfl rfl (Nat.le_of_ble_eq_true rfl) (rmx_ok hR (by decide) (by decide) (by decide) (by decide)) (t_X10_isList (nx := nx) (v := a) (by omega)) rfl ?_
        refine wp_ifeq_bt G dX10_join_40 (fun kq20 => ?_) (fun kq20 => ?_)
        · skip
          refine wp_iconst G dX10_join_60 ?_
          exact wp_ireturn G hr dX10_join_61 (by exact ⟨rfl, by rw [ansJ_1 (by omega)], Or.inl rfl⟩)
        · skip
          refine wp_iload_n G 3 dX10_join_43 rfl ?_
          refine wp_cSE (as := [zI b]) (rest := []) (hp2 := (nx, h, [])) G mX10_isList lX10_112 sX10_isList dX10_join_44 rfl rfl (Nat.le_of_ble_eq_true rfl) (rmx_ok hR (by decide) (by decide) (by decide) (by decide)) (t_X10_isList (nx := nx) (v := b) (by omega)) rfl ?_
          refine wp_ifeq_bt G dX10_join_47 (fun kq21 => ?_) (fun kq21 => ?_)
          · skip
            refine wp_iconst G dX10_join_60 ?_
            exact wp_ireturn G hr dX10_join_61 (by exact ⟨rfl, by rw [ansJ_1 (by omega)], Or.inl rfl⟩)
          · skip
            refine wp_iload_n G 2 dX10_join_50 rfl ?_
            refine wp_iload_n G 3 dX10_join_51 rfl ?_
            refine wp_icmp_eq G dX10_join_52 (by omega) (by omega) (fun kq22 => ?_) (fun kq22 => ?_)
            · skip
              refine wp_iconst G dX10_join_60 ?_
              exact wp_ireturn G hr dX10_join_61 (by exact ⟨rfl, by rw [ansJ_1 (by omega)], Or.inl rfl⟩)
            · skip
              refine wp_iload G 0 dX10_join_55 rfl ?_
              refine wp_if_ne G dX10_join_57 (by omega) (fun z => by exfalso; omega) (fun _ => ?_)
              refine wp_iconst G dX10_join_60 ?_
              exact wp_ireturn G hr dX10_join_61 (by exact ⟨rfl, by rw [ansJ_1 (by omega)], Or.inl rfl⟩)
      · skip
        obtain ⟨xx, e_xx⟩ := Int.eq_ofNat_of_zero_le (show 0 ≤ x from (by omega))
        subst e_xx
        refine wp_aload_n G 0 dX10_join_19 rfl ?_
        have hxt : q 0 ((xx : Nat) : Int).toNat = q 0 xx := rfl
        refine wp_get G 0 cOk9 fX10_7 dX10_join_20 h64 rfl ?_
        refine wp_iload_n G 3 dX10_join_23 rfl ?_
        refine wp_iald (j := xx) G dX10_join_24 h65 rfl (by omega) (by decide) ?_
        have rrq1 := hO.l xx (by omega)
        refine wp_iload_n G 1 dX10_join_25 rfl ?_
        refine wp_icmp_ne G dX10_join_26 (by omega) (by omega) (fun kq24 => ?_) (fun kq24 => ?_)
        · skip
          refine wp_iconst G dX10_join_33 ?_
          refine wp_istore (lv' := [(4, zI 0), (0, zR 64), (1, zI a), (2, zI b), (3, zI ((xx : Nat) : Int))]) G dX10_join_34 (by decide) rfl ?_
          refine wp_iload_n G 2 dX10_join_36 rfl ?_
          refine wp_cSE (as := [zI a]) (rest := []) (hp2 := (nx, h, [])) G mX10_isList lX10_112 sX10_isList dX10_join_37 rfl rfl (Nat.le_of_ble_eq_true rfl) (rmx_ok hR (by decide) (by decide) (by decide) (by decide)) (t_X10_isList (nx := nx) (v := a) (by omega)) rfl ?_
          refine wp_ifeq_bt G dX10_join_40 (fun kq25 => ?_) (fun kq25 => ?_)
          · skip
            refine wp_iconst G dX10_join_60 ?_
            exact wp_ireturn G hr dX10_join_61 (by exact ⟨rfl, by rw [ansJ_1 (by omega)], Or.inl rfl⟩)
          · skip
            refine wp_iload_n G 3 dX10_join_43 rfl ?_
            refine wp_cSE (as := [zI b]) (rest := []) (hp2 := (nx, h, [])) G mX10_isList lX10_112 sX10_isList dX10_join_44 rfl rfl (Nat.le_of_ble_eq_true rfl) (rmx_ok hR (by decide) (by decide) (by decide) (by decide)) (t_X10_isList (nx := nx) (v := b) (by omega)) rfl ?_
            refine wp_ifeq_bt G dX10_join_47 (fun kq26 => ?_) (fun kq26 => ?_)
            · skip
              refine wp_iconst G dX10_join_60 ?_
              exact wp_ireturn G hr dX10_join_61 (by exact ⟨rfl, by rw [ansJ_1 (by omega)], Or.inl rfl⟩)
            · skip
              refine wp_iload_n G 2 dX10_join_50 rfl ?_
              refine wp_iload_n G 3 dX10_join_51 rfl ?_
              refine wp_icmp_eq G dX10_join_52 (by omega) (by omega) (fun kq27 => ?_) (fun kq27 => ?_)
              · skip
                refine wp_iconst G dX10_join_60 ?_
                exact wp_ireturn G hr dX10_join_61 (by exact ⟨rfl, by rw [ansJ_1 (by omega)], Or.inl rfl⟩)
              · skip
                refine wp_iload G 0 dX10_join_55 rfl ?_
                refine wp_if_ne G dX10_join_57 (by omega) (fun z => by exfalso; omega) (fun _ => ?_)
                refine wp_iconst G dX10_join_60 ?_
                exact wp_ireturn G hr dX10_join_61 (by exact ⟨rfl, by rw [ansJ_1 (by omega)], Or.inl rfl⟩)
        · skip
          refine wp_iconst G dX10_join_29 ?_
          refine wp_goto G dX10_join_30 ?_
          refine wp_istore (lv' := [(4, zI 1), (0, zR 64), (1, zI a), (2, zI b), (3, zI ((xx : Nat) : Int))]) G dX10_join_34 (by decide) rfl ?_
          refine wp_iload_n G 2 dX10_join_36 rfl ?_
          refine wp_cSE (as := [zI a]) (rest := []) (hp2 := (nx, h, [])) G mX10_isList lX10_112 sX10_isList dX10_join_37 rfl rfl (Nat.le_of_ble_eq_true rfl) (rmx_ok hR (by decide) (by decide) (by decide) (by decide)) (t_X10_isList (nx := nx) (v := a) (by omega)) rfl ?_
          refine wp_ifeq_bt G dX10_join_40 (fun kq29 => ?_) (fun kq29 => ?_)
          · skip
            refine wp_iconst G dX10_join_60 ?_
            exact wp_ireturn G hr dX10_join_61 (by exact ⟨rfl, by rw [ansJ_1 (by omega)], Or.inl rfl⟩)
          · skip
            refine wp_iload_n G 3 dX10_join_43 rfl ?_
            refine wp_cSE (as := [zI b]) (rest := []) (hp2 := (nx, h, [])) G mX10_isList lX10_112 sX10_isList dX10_join_44 rfl rfl (Nat.le_of_ble_eq_true rfl) (rmx_ok hR (by decide) (by decide) (by decide) (by decide)) (t_X10_isList (nx := nx) (v := b) (by omega)) rfl ?_
            refine wp_ifeq_bt G dX10_join_47 (fun kq30 => ?_) (fun kq30 => ?_)
            · skip
              refine wp_iconst G dX10_join_60 ?_
              exact wp_ireturn G hr dX10_join_61 (by exact ⟨rfl, by rw [ansJ_1 (by omega)], Or.inl rfl⟩)
            · skip
              refine wp_iload_n G 2 dX10_join_50 rfl ?_
              refine wp_iload_n G 3 dX10_join_51 rfl ?_
              refine wp_icmp_eq G dX10_join_52 (by omega) (by omega) (fun kq31 => ?_) (fun kq31 => ?_)
              · skip
                refine wp_iconst G dX10_join_60 ?_
                exact wp_ireturn G hr dX10_join_61 (by exact ⟨rfl, by rw [ansJ_1 (by omega)], Or.inl rfl⟩)
              · skip
                refine wp_iload G 0 dX10_join_55 rfl ?_
                refine wp_if_ne G dX10_join_57 (by omega) (fun _ => ?_) (fun z => by exfalso; omega)
                refine wp_aload_n G 1 dX10_join_62 rfl ?_
                refine wp_aload_n G 1 dX10_join_63 rfl ?_
                refine wp_iload_n G 2 dX10_join_64 rfl ?_
                refine wp_iconst G dX10_join_65 ?_
                refine wp_callV (mm := (0, 0)) (b := 64) (ci := 9) (as := [zI a, zI 1]) (rest := [zR 64]) G mX10_listed lX10_160 iX10_listed eX10_listed ⟨_, rfl, rfl⟩ dX10_join_66 h64 rfl rfl (Nat.le_of_ble_eq_true rfl) (rmx_ok hR (by decide) (by decide) (by decide) (by decide)) (t_X10_listedA (nx := nx) (a := a) hQ hO hN hJ ri_a) (fun rr nx' l' hq => ?_)
                obtain ⟨Ra , hx_a0 , rfl , enx , rfl⟩ := hq
                subst nx'
                show Wp K 11 (Mx K h (fun rr nx' l' => nx' = nx ∧ rr = some (zI (ansJ n q st a b ((xx : Nat) : Int))) ∧ (l' = [] ∨ ∃ (A B : Nat → Int), l' = [(74, oA 0 12 A), (64, (MO n fc hn ln ((cN q a n : Nat) : Int) ((cN q b n : Nat) : Int))), (75, oA 0 12 B)] ∨ ∃ J, l' = [(74, oA 0 12 A), (64, (MO n fc hn ln ((cN q a n : Nat) : Int) ((cN q b n : Nat) : Int))), (75, oA 0 12 B), (76, oA 0 53248 J)])) (0, 0)) (0, 0) 69 [(4, zI 1), (0, zR 64), (1, zI a), (2, zI b), (3, zI ((xx : Nat) : Int))] [zI ((cN q a n : Nat) : Int), zR 64] (nx, h, [(74, oA 0 12 Ra)])
                refine wp_putE (hp2 := (nx, h, [(74, oA 0 12 Ra), (64, oO 9 [zR 65, zR 66, zR 67, zR 68, zR 69, zR 70, zR 71, zI ((n : Nat) : Int), zR 72, zR 73, zR 74, zR 75, zI ((cN q a n : Nat) : Int), zI mb, zR 76, zR 77, zR 78, zR 79, zR 80, zR 81, zI ((fc : Nat) : Int), zR 82, zR 83, zR 84, zR 85, zR 86, zR 87, zI ((hn : Nat) : Int), zR 88, zR 89, zR 90, zR 91, zR 92, zI ((ln : Nat) : Int)])])) G 12 cOk9 fX10_153 dX10_join_69 h64 (Nat.le_of_ble_eq_true rfl) (fit_int _) (fun _ e => by cases e; rfl) rfl ?_
                refine wp_aload_n G 1 dX10_join_72 rfl ?_
                refine wp_aload_n G 1 dX10_join_73 rfl ?_
                refine wp_iload_n G 3 dX10_join_74 rfl ?_
                refine wp_iconst G dX10_join_75 ?_
                refine wp_callV (mm := (0, 0)) (b := 64) (ci := 9) (as := [zI b, zI 0]) (rest := [zR 64]) G mX10_listed lX10_160 iX10_listed eX10_listed ⟨_, rfl, rfl⟩ dX10_join_76 rfl rfl rfl (Nat.le_of_ble_eq_true rfl) (rmx_ok hR (by decide) (by decide) (by decide) (by decide)) (t_X10_listedB (nx := nx) (a := b) (ma := ((cN q a n : Nat) : Int)) (A := Ra) ⟨rfl, h65, h66, h67, h68, h69, h70, h71, h72, h73⟩ hO hN ⟨rfl, h75, h76⟩ ri_b) (fun rr nx' l' hq => ?_)
                obtain ⟨Rb , hx_b0 , rfl , enx , rfl⟩ := hq
                subst nx'
                show Wp K 11 (Mx K h (fun rr nx' l' => nx' = nx ∧ rr = some (zI (ansJ n q st a b ((xx : Nat) : Int))) ∧ (l' = [] ∨ ∃ (A B : Nat → Int), l' = [(74, oA 0 12 A), (64, (MO n fc hn ln ((cN q a n : Nat) : Int) ((cN q b n : Nat) : Int))), (75, oA 0 12 B)] ∨ ∃ J, l' = [(74, oA 0 12 A), (64, (MO n fc hn ln ((cN q a n : Nat) : Int) ((cN q b n : Nat) : Int))), (75, oA 0 12 B), (76, oA 0 53248 J)])) (0, 0)) (0, 0) 79 [(4, zI 1), (0, zR 64), (1, zI a), (2, zI b), (3, zI ((xx : Nat) : Int))] [zI ((cN q b n : Nat) : Int), zR 64] (nx, h, [(74, oA 0 12 Ra), (64, oO 9 [zR 65, zR 66, zR 67, zR 68, zR 69, zR 70, zR 71, zI ((n : Nat) : Int), zR 72, zR 73, zR 74, zR 75, zI ((cN q a n : Nat) : Int), zI mb, zR 76, zR 77, zR 78, zR 79, zR 80, zR 81, zI ((fc : Nat) : Int), zR 82, zR 83, zR 84, zR 85, zR 86, zR 87, zI ((hn : Nat) : Int), zR 88, zR 89, zR 90, zR 91, zR 92, zI ((ln : Nat) : Int)]), (75, oA 0 12 Rb)])
                refine wp_putE (hp2 := (nx, h, [(74, oA 0 12 Ra), (64, oO 9 [zR 65, zR 66, zR 67, zR 68, zR 69, zR 70, zR 71, zI ((n : Nat) : Int), zR 72, zR 73, zR 74, zR 75, zI ((cN q a n : Nat) : Int), zI ((cN q b n : Nat) : Int), zR 76, zR 77, zR 78, zR 79, zR 80, zR 81, zI ((fc : Nat) : Int), zR 82, zR 83, zR 84, zR 85, zR 86, zR 87, zI ((hn : Nat) : Int), zR 88, zR 89, zR 90, zR 91, zR 92, zI ((ln : Nat) : Int)]), (75, oA 0 12 Rb)])) G 13 cOk9 fX10_150 dX10_join_79 rfl (Nat.le_of_ble_eq_true rfl) (fit_int _) (fun _ e => by cases e; rfl) rfl ?_
                refine wp_aload_n G 1 dX10_join_82 rfl ?_
                refine wp_get G 12 cOk9 fX10_153 dX10_join_83 rfl rfl ?_
                refine wp_bipush G dX10_join_86 (by decide) ?_
                refine wp_icmp_gt G dX10_join_88 (by omega) (by omega) (fun kq33 => ?_) (fun kq33 => ?_)
                · skip
                  refine wp_bipush G dX10_join_100 (by decide) ?_
                  exact wp_ireturn G hr dX10_join_102 (by exact ⟨rfl, by rw [ansJ_5 (by omega) (by omega)], Or.inr ⟨_, _, Or.inl rfl⟩⟩)
                · skip
                  refine wp_aload_n G 1 dX10_join_91 rfl ?_
                  refine wp_get G 13 cOk9 fX10_150 dX10_join_92 rfl rfl ?_
                  refine wp_bipush G dX10_join_95 (by decide) ?_
                  refine wp_icmp_le G dX10_join_97 (by omega) (by omega) (fun kq34 => ?_) (fun kq34 => ?_)
                  · skip
                    have ha12 : cN q a n ≤ 12 := by omega
                    have hb12 : cN q b n ≤ 12 := by omega
                    have hA2 := lst_ok ha12 hx_a0
                    have hB2 := lst_ok hb12 hx_b0
                    have hXb := XJ_b (q := q) (la := nthL q a n) (lb := nthL q b n) hN
                    have hX2 : ∀ i j, (XJ q st (nthL q a n) (nthL q b n)) i j ≤ 35 := fun i j => (hXb i j).2
                    refine wp_aload_n G 1 dX10_join_103 rfl ?_
                    refine wp_callV (mm := (0, 0)) (b := 64) (ci := 9) (as := []) (rest := []) G mX10_findJoins lX10_164 iX10_findJoins eX10_findJoins ⟨_, rfl, rfl⟩ dX10_join_104 rfl rfl rfl (Nat.le_of_ble_eq_true rfl) (rmx_ok hR (by decide) (by decide) (by decide) (by decide)) (t_X10_findJoins (nx := nx) (ma := (cN q a n)) (mb := (cN q b n)) (la := (nthL q a n)) (lb := (nthL q b n)) (A := Ra) (B := Rb) ⟨rfl, h65, h66, h67, h68, h69, h70, h71, h72, h73⟩ hO hN ⟨rfl, rfl, h76⟩ (by omega) (by omega) hA2 hB2) (fun rr nx' l' hq => ?_)
                    obtain ⟨Rc , hx_c0 , rfl , enx , rfl⟩ := hq
                    subst nx'
                    show Wp K 11 (Mx K h (fun rr nx' l' => nx' = nx ∧ rr = some (zI (ansJ n q st a b ((xx : Nat) : Int))) ∧ (l' = [] ∨ ∃ (A B : Nat → Int), l' = [(74, oA 0 12 A), (64, (MO n fc hn ln ((cN q a n : Nat) : Int) ((cN q b n : Nat) : Int))), (75, oA 0 12 B)] ∨ ∃ J, l' = [(74, oA 0 12 A), (64, (MO n fc hn ln ((cN q a n : Nat) : Int) ((cN q b n : Nat) : Int))), (75, oA 0 12 B), (76, oA 0 53248 J)])) (0, 0)) (0, 0) 107 [(4, zI 1), (0, zR 64), (1, zI a), (2, zI b), (3, zI ((xx : Nat) : Int))] [] (nx, h, [(74, oA 0 12 Ra), (64, oO 9 [zR 65, zR 66, zR 67, zR 68, zR 69, zR 70, zR 71, zI ((n : Nat) : Int), zR 72, zR 73, zR 74, zR 75, zI ((cN q a n : Nat) : Int), zI ((cN q b n : Nat) : Int), zR 76, zR 77, zR 78, zR 79, zR 80, zR 81, zI ((fc : Nat) : Int), zR 82, zR 83, zR 84, zR 85, zR 86, zR 87, zI ((hn : Nat) : Int), zR 88, zR 89, zR 90, zR 91, zR 92, zI ((ln : Nat) : Int)]), (75, oA 0 12 Rb), (76, oA 0 53248 Rc)])
                    have hbj := bj_b (ma := cN q a n) (mb := cN q b n) hX2 (cN q a n) 0
                    have hvl : 10000 * jn (ch (XJ q st (nthL q a n) (nthL q b n)) (cN q a n) (cN q b n)) (cN q a n) (cN q a n) - mn (XJ q st (nthL q a n) (nthL q b n)) (ch (XJ q st (nthL q a n) (nthL q b n)) (cN q a n) (cN q b n)) (cN q a n) (cN q a n) = bj (XJ q st (nthL q a n) (nthL q b n)) (cN q a n) (cN q b n) (cN q a n) 0 := by have z := vl_ch (ma := cN q a n) (mb := cN q b n) hX2 hb12 (cN q a n) (Nat.le_refl _); rw [Nat.sub_self] at z; exact z
                    have hjr := jm_r (ma := cN q a n) (mb := cN q b n) hX2 (ch_va hX2 hb12) (cN q a n) (Nat.le_refl _)
                    refine wp_aload_n G 1 dX10_join_107 rfl ?_
                    refine wp_get G 14 cOk9 fX10_45 dX10_join_108 rfl rfl ?_
                    refine wp_iconst G dX10_join_111 ?_
                    refine wp_iald (j := 0) G dX10_join_112 rfl rfl (by decide) (by decide) ?_
                    rw [show ((Rc 0) : Int) = (bj (XJ q st (nthL q a n) (nthL q b n)) (cN q a n) (cN q b n) (cN q a n) 0) from hx_c0 0 (Nat.le_refl _) (Nat.zero_le _) 0 (Nat.pow_pos (by decide))]
                    refine wp_istore (lv' := [(5, zI (bj (XJ q st (nthL q a n) (nthL q b n)) (cN q a n) (cN q b n) (cN q a n) 0)), (4, zI 1), (0, zR 64), (1, zI a), (2, zI b), (3, zI ((xx : Nat) : Int))]) G dX10_join_113 (by decide) rfl ?_
                    refine wp_iload G 0 dX10_join_115 rfl ?_
                    refine wp_sipush G dX10_join_117 (by decide) ?_
                    refine wp_iadd G dX10_join_120 ?_
                    refine wp_sipush G dX10_join_121 (by decide) ?_
                    refine wp_idiv G (by omega) (by omega) (by omega) (by omega) dX10_join_124 ?_
                    refine wp_istore (lv' := [(6, zI (((bj (XJ q st (nthL q a n) (nthL q b n)) (cN q a n) (cN q b n) (cN q a n) 0) + 9999) / 10000)), (5, zI (bj (XJ q st (nthL q a n) (nthL q b n)) (cN q a n) (cN q b n) (cN q a n) 0)), (4, zI 1), (0, zR 64), (1, zI a), (2, zI b), (3, zI ((xx : Nat) : Int))]) G dX10_join_125 (by decide) rfl ?_
                    refine wp_iload_n G 6 dX10_join_127 rfl ?_
                    refine wp_if_ge G dX10_join_128 (by omega) (fun kq35 => ?_) (fun kq35 => ?_)
                    · skip
                      have hqx : q 0 xx = a := by omega
                      have hxc := cN_lt hqx (show xx < n by omega)
                      refine wp_iconst G dX10_join_151 ?_
                      refine wp_istore (lv' := [(7, zI 0), (6, zI (((bj (XJ q st (nthL q a n) (nthL q b n)) (cN q a n) (cN q b n) (cN q a n) 0) + 9999) / 10000)), (5, zI (bj (XJ q st (nthL q a n) (nthL q b n)) (cN q a n) (cN q b n) (cN q a n) 0)), (4, zI 1), (0, zR 64), (1, zI a), (2, zI b), (3, zI ((xx : Nat) : Int))]) G dX10_join_152 (by decide) rfl ?_
                      refine wp_iconst G dX10_join_154 ?_
                      refine wp_istore (lv' := [(8, zI 0), (7, zI 0), (6, zI (((bj (XJ q st (nthL q a n) (nthL q b n)) (cN q a n) (cN q b n) (cN q a n) 0) + 9999) / 10000)), (5, zI (bj (XJ q st (nthL q a n) (nthL q b n)) (cN q a n) (cN q b n) (cN q a n) 0)), (4, zI 1), (0, zR 64), (1, zI a), (2, zI b), (3, zI ((xx : Nat) : Int))]) G dX10_join_155 (by decide) rfl ?_
                      refine wp_lv [5, 6, 7, 8, 4, 3, 2, 1, 0] rfl ?_
                      suffices lp157 : ∀ (fu : Nat) (i : Nat) (v7 : Int) (v8 : Int), cN q a n - i < fu → (v7 = ((us (XJ q st (nthL q a n) (nthL q b n)) (cN q a n) (cN q b n) i : Nat) : Int)) → (v8 = ((i : Nat) : Int)) → (i ≤ cN q a xx) → Wp K 11 (Mx K h (fun rr nx' l' => nx' = nx ∧ rr = some (zI (ansJ n q st a b ((xx : Nat) : Int))) ∧ (l' = [] ∨ ∃ (A B : Nat → Int), l' = [(74, oA 0 12 A), (64, (MO n fc hn ln ((cN q a n : Nat) : Int) ((cN q b n : Nat) : Int))), (75, oA 0 12 B)] ∨ ∃ J, l' = [(74, oA 0 12 A), (64, (MO n fc hn ln ((cN q a n : Nat) : Int) ((cN q b n : Nat) : Int))), (75, oA 0 12 B), (76, oA 0 53248 J)])) (0, 0)) (0, 0) 157 [(0, zR 64), (1, zI a), (2, zI b), (3, zI ((xx : Nat) : Int)), (4, zI 1), (5, zI (bj (XJ q st (nthL q a n) (nthL q b n)) (cN q a n) (cN q b n) (cN q a n) 0)), (6, zI (((bj (XJ q st (nthL q a n) (nthL q b n)) (cN q a n) (cN q b n) (cN q a n) 0) + 9999) / 10000)), (7, zI v7), (8, zI v8)] [] (nx, h, [(74, oA 0 12 Ra), (64, oO 9 [zR 65, zR 66, zR 67, zR 68, zR 69, zR 70, zR 71, zI ((n : Nat) : Int), zR 72, zR 73, zR 74, zR 75, zI ((cN q a n : Nat) : Int), zI ((cN q b n : Nat) : Int), zR 76, zR 77, zR 78, zR 79, zR 80, zR 81, zI ((fc : Nat) : Int), zR 82, zR 83, zR 84, zR 85, zR 86, zR 87, zI ((hn : Nat) : Int), zR 88, zR 89, zR 90, zR 91, zR 92, zI ((ln : Nat) : Int)]), (75, oA 0 12 Rb), (76, oA 0 53248 Rc)]) from lp157 _ 0 0 0 (Nat.lt_succ_self _) (by rfl) (by omega) (by exact Nat.zero_le _)
                      intro fu
                      induction fu with
                      | zero => intro i v7 v8 hm; exact absurd hm (Nat.not_lt_zero _)
                      | succ fu ih157 =>
                        intro i v7 v8 hm157 e7 e8 hii
                        subst e7
                        subst e8
                        have hus : us (XJ q st (nthL q a n) (nthL q b n)) (cN q a n) (cN q b n) i < 2 ^ cN q b n := us_lt hb12 i
                        have hub : 2 ^ cN q b n ≤ 4096 := Nat.le_trans (Nat.pow_le_pow_right (by decide) hb12) (by decide)
                        refine wp_iload G 8 dX10_join_157 rfl ?_
                        refine wp_aload_n G 0 dX10_join_159 rfl ?_
                        refine wp_get G 12 cOk9 fX10_153 dX10_join_160 rfl rfl ?_
                        refine wp_icmp_ge G dX10_join_163 (by omega) (by omega) (fun kq36 => ?_) (fun kq36 => ?_)
                        · skip
                          exfalso; omega
                        · skip
                          refine wp_bipush G dX10_join_166 (by decide) ?_
                          refine wp_istore (lv' := [(9, zI (-6)), (0, zR 64), (1, zI a), (2, zI b), (3, zI ((xx : Nat) : Int)), (4, zI 1), (5, zI (bj (XJ q st (nthL q a n) (nthL q b n)) (cN q a n) (cN q b n) (cN q a n) 0)), (6, zI (((bj (XJ q st (nthL q a n) (nthL q b n)) (cN q a n) (cN q b n) (cN q a n) 0) + 9999) / 10000)), (7, zI ((us (XJ q st (nthL q a n) (nthL q b n)) (cN q a n) (cN q b n) i : Nat) : Int)), (8, zI ((i : Nat) : Int))]) G dX10_join_168 (by decide) rfl ?_
                          refine wp_iconst G dX10_join_170 ?_
                          refine wp_istore (lv' := [(10, zI 0), (9, zI (-6)), (0, zR 64), (1, zI a), (2, zI b), (3, zI ((xx : Nat) : Int)), (4, zI 1), (5, zI (bj (XJ q st (nthL q a n) (nthL q b n)) (cN q a n) (cN q b n) (cN q a n) 0)), (6, zI (((bj (XJ q st (nthL q a n) (nthL q b n)) (cN q a n) (cN q b n) (cN q a n) 0) + 9999) / 10000)), (7, zI ((us (XJ q st (nthL q a n) (nthL q b n)) (cN q a n) (cN q b n) i : Nat) : Int)), (8, zI ((i : Nat) : Int))]) G dX10_join_171 (by decide) rfl ?_
                          refine wp_lv [2, 3, 4, 5, 6, 7, 8, 9, 10, 1, 0] rfl ?_
                          suffices lp173 : ∀ (fu : Nat) (j : Nat) (v9 : Int) (v10 : Int), cN q b n - j < fu → (v9 = pkI (pk (fJ (XJ q st (nthL q a n) (nthL q b n)) (bj (XJ q st (nthL q a n) (nthL q b n)) (cN q a n) (cN q b n) ((cN q a n) - (i + 1))) i (us (XJ q st (nthL q a n) (nthL q b n)) (cN q a n) (cN q b n) i)) (bj (XJ q st (nthL q a n) (nthL q b n)) (cN q a n) (cN q b n) ((cN q a n) - i) (us (XJ q st (nthL q a n) (nthL q b n)) (cN q a n) (cN q b n) i)) j)) → (v10 = ((j : Nat) : Int)) → (j ≤ cN q b n) → Wp K 11 (Mx K h (fun rr nx' l' => nx' = nx ∧ rr = some (zI (ansJ n q st a b ((xx : Nat) : Int))) ∧ (l' = [] ∨ ∃ (A B : Nat → Int), l' = [(74, oA 0 12 A), (64, (MO n fc hn ln ((cN q a n : Nat) : Int) ((cN q b n : Nat) : Int))), (75, oA 0 12 B)] ∨ ∃ J, l' = [(74, oA 0 12 A), (64, (MO n fc hn ln ((cN q a n : Nat) : Int) ((cN q b n : Nat) : Int))), (75, oA 0 12 B), (76, oA 0 53248 J)])) (0, 0)) (0, 0) 173 [(0, zR 64), (1, zI a), (2, zI b), (3, zI ((xx : Nat) : Int)), (4, zI 1), (5, zI (bj (XJ q st (nthL q a n) (nthL q b n)) (cN q a n) (cN q b n) (cN q a n) 0)), (6, zI (((bj (XJ q st (nthL q a n) (nthL q b n)) (cN q a n) (cN q b n) (cN q a n) 0) + 9999) / 10000)), (7, zI ((us (XJ q st (nthL q a n) (nthL q b n)) (cN q a n) (cN q b n) i : Nat) : Int)), (8, zI ((i : Nat) : Int)), (9, zI v9), (10, zI v10)] [] (nx, h, [(74, oA 0 12 Ra), (64, oO 9 [zR 65, zR 66, zR 67, zR 68, zR 69, zR 70, zR 71, zI ((n : Nat) : Int), zR 72, zR 73, zR 74, zR 75, zI ((cN q a n : Nat) : Int), zI ((cN q b n : Nat) : Int), zR 76, zR 77, zR 78, zR 79, zR 80, zR 81, zI ((fc : Nat) : Int), zR 82, zR 83, zR 84, zR 85, zR 86, zR 87, zI ((hn : Nat) : Int), zR 88, zR 89, zR 90, zR 91, zR 92, zI ((ln : Nat) : Int)]), (75, oA 0 12 Rb), (76, oA 0 53248 Rc)]) from lp173 _ 0 (-6) 0 (Nat.lt_succ_self _) (by rfl) (by omega) (by omega)
                          intro fu
                          induction fu with
                          | zero => intro j v9 v10 hm; exact absurd hm (Nat.not_lt_zero _)
                          | succ fu ih173 =>
                            intro j v9 v10 hm173 e9 e10 hi0
                            subst e9
                            subst e10
                            have hfb := fJ_b hX2 (bj_b (ma := cN q a n) (mb := cN q b n) hX2 (cN q a n - (i + 1))) i (us (XJ q st (nthL q a n) (nthL q b n)) (cN q a n) (cN q b n) i) j
                            have htb := bj_b (ma := cN q a n) (mb := cN q b n) hX2 (cN q a n - i) (us (XJ q st (nthL q a n) (nthL q b n)) (cN q a n) (cN q b n) i)
                            have hpr := pkI_r (f := (fJ (XJ q st (nthL q a n) (nthL q b n)) (bj (XJ q st (nthL q a n) (nthL q b n)) (cN q a n) (cN q b n) ((cN q a n) - (i + 1))) i (us (XJ q st (nthL q a n) (nthL q b n)) (cN q a n) (cN q b n) i))) (t := (bj (XJ q st (nthL q a n) (nthL q b n)) (cN q a n) (cN q b n) ((cN q a n) - i) (us (XJ q st (nthL q a n) (nthL q b n)) (cN q a n) (cN q b n) i))) (k := j) (by omega)
                            refine wp_iload G 10 dX10_join_173 rfl ?_
                            refine wp_aload_n G 0 dX10_join_175 rfl ?_
                            refine wp_get G 13 cOk9 fX10_150 dX10_join_176 rfl rfl ?_
                            refine wp_icmp_ge G dX10_join_179 (by omega) (by omega) (fun kq37 => ?_) (fun kq37 => ?_)
                            · skip
                              have hpk : pk (fJ (XJ q st (nthL q a n) (nthL q b n)) (bj (XJ q st (nthL q a n) (nthL q b n)) (cN q a n) (cN q b n) ((cN q a n) - (i + 1))) i (us (XJ q st (nthL q a n) (nthL q b n)) (cN q a n) (cN q b n) i)) (bj (XJ q st (nthL q a n) (nthL q b n)) (cN q a n) (cN q b n) ((cN q a n) - i) (us (XJ q st (nthL q a n) (nthL q b n)) (cN q a n) (cN q b n) i)) j = ch (XJ q st (nthL q a n) (nthL q b n)) (cN q a n) (cN q b n) i := pk_fin (by omega) (by omega)
                              have hp2 : 2 ^ (pk (fJ (XJ q st (nthL q a n) (nthL q b n)) (bj (XJ q st (nthL q a n) (nthL q b n)) (cN q a n) (cN q b n) ((cN q a n) - (i + 1))) i (us (XJ q st (nthL q a n) (nthL q b n)) (cN q a n) (cN q b n) i)) (bj (XJ q st (nthL q a n) (nthL q b n)) (cN q a n) (cN q b n) ((cN q a n) - i) (us (XJ q st (nthL q a n) (nthL q b n)) (cN q a n) (cN q b n) i)) j) ≤ 4096 := Nat.le_trans (Nat.pow_le_pow_right (by decide) (show pk (fJ (XJ q st (nthL q a n) (nthL q b n)) (bj (XJ q st (nthL q a n) (nthL q b n)) (cN q a n) (cN q b n) ((cN q a n) - (i + 1))) i (us (XJ q st (nthL q a n) (nthL q b n)) (cN q a n) (cN q b n) i)) (bj (XJ q st (nthL q a n) (nthL q b n)) (cN q a n) (cN q b n) ((cN q a n) - i) (us (XJ q st (nthL q a n) (nthL q b n)) (cN q a n) (cN q b n) i)) j ≤ 12 by omega)) (by decide)
                              refine wp_aload_n G 0 dX10_join_229 rfl ?_
                              refine wp_get G 10 cOk9 fX10_38 dX10_join_230 rfl rfl ?_
                              refine wp_iload G 8 dX10_join_233 rfl ?_
                              refine wp_iald (j := i) G dX10_join_235 rfl rfl (by omega) (by decide) ?_
                              rw [show ((Ra i) : Int) = ((nthL q a n i : Nat) : Int) from (hA2 i (by omega)).1]
                              have hnt := nth_ok (q := q) (a := a) (i := i) n (by omega)
                              refine wp_iload_n G 3 dX10_join_236 rfl ?_
                              refine wp_icmp_ne G dX10_join_237 (by omega) (by omega) (fun kq38 => ?_) (fun kq38 => ?_)
                              · skip
                                refine wp_iload G 9 dX10_join_258 rfl ?_
                                refine wp_if_ge G dX10_join_260 (by omega) (fun kq39 => ?_) (fun kq39 => ?_)
                                · skip
                                  rw [show (pkI (pk (fJ (XJ q st (nthL q a n) (nthL q b n)) (bj (XJ q st (nthL q a n) (nthL q b n)) (cN q a n) (cN q b n) ((cN q a n) - (i + 1))) i (us (XJ q st (nthL q a n) (nthL q b n)) (cN q a n) (cN q b n) i)) (bj (XJ q st (nthL q a n) (nthL q b n)) (cN q a n) (cN q b n) ((cN q a n) - i) (us (XJ q st (nthL q a n) (nthL q b n)) (cN q a n) (cN q b n) i)) j) : Int) = ((pk (fJ (XJ q st (nthL q a n) (nthL q b n)) (bj (XJ q st (nthL q a n) (nthL q b n)) (cN q a n) (cN q b n) ((cN q a n) - (i + 1))) i (us (XJ q st (nthL q a n) (nthL q b n)) (cN q a n) (cN q b n) i)) (bj (XJ q st (nthL q a n) (nthL q b n)) (cN q a n) (cN q b n) ((cN q a n) - i) (us (XJ q st (nthL q a n) (nthL q b n)) (cN q a n) (cN q b n) i)) j : Nat) : Int) from pkI_y (by omega)]
                                  refine wp_iload G 7 dX10_join_268 rfl ?_
                                  refine wp_iconst G dX10_join_270 ?_
                                  refine wp_iload G 9 dX10_join_271 rfl ?_
                                  refine wp_ishl1 (k := pk (fJ (XJ q st (nthL q a n) (nthL q b n)) (bj (XJ q st (nthL q a n) (nthL q b n)) (cN q a n) (cN q b n) ((cN q a n) - (i + 1))) i (us (XJ q st (nthL q a n) (nthL q b n)) (cN q a n) (cN q b n) i)) (bj (XJ q st (nthL q a n) (nthL q b n)) (cN q a n) (cN q b n) ((cN q a n) - i) (us (XJ q st (nthL q a n) (nthL q b n)) (cN q a n) (cN q b n) i)) j) G rfl (by omega) dX10_join_273 ?_
                                  refine wp_ior (a := us (XJ q st (nthL q a n) (nthL q b n)) (cN q a n) (cN q b n) i) (b := 2 ^ (pk (fJ (XJ q st (nthL q a n) (nthL q b n)) (bj (XJ q st (nthL q a n) (nthL q b n)) (cN q a n) (cN q b n) ((cN q a n) - (i + 1))) i (us (XJ q st (nthL q a n) (nthL q b n)) (cN q a n) (cN q b n) i)) (bj (XJ q st (nthL q a n) (nthL q b n)) (cN q a n) (cN q b n) ((cN q a n) - i) (us (XJ q st (nthL q a n) (nthL q b n)) (cN q a n) (cN q b n) i)) j)) G rfl rfl (by omega) (by omega) dX10_join_274 ?_
                                  refine wp_istore (lv' := [(7, zI (((us (XJ q st (nthL q a n) (nthL q b n)) (cN q a n) (cN q b n) i) ||| (2 ^ (pk (fJ (XJ q st (nthL q a n) (nthL q b n)) (bj (XJ q st (nthL q a n) (nthL q b n)) (cN q a n) (cN q b n) ((cN q a n) - (i + 1))) i (us (XJ q st (nthL q a n) (nthL q b n)) (cN q a n) (cN q b n) i)) (bj (XJ q st (nthL q a n) (nthL q b n)) (cN q a n) (cN q b n) ((cN q a n) - i) (us (XJ q st (nthL q a n) (nthL q b n)) (cN q a n) (cN q b n) i)) j)) : Nat) : Int)), (0, zR 64), (1, zI a), (2, zI b), (3, zI ((xx : Nat) : Int)), (4, zI 1), (5, zI (bj (XJ q st (nthL q a n) (nthL q b n)) (cN q a n) (cN q b n) (cN q a n) 0)), (6, zI (((bj (XJ q st (nthL q a n) (nthL q b n)) (cN q a n) (cN q b n) (cN q a n) 0) + 9999) / 10000)), (8, zI ((i : Nat) : Int)), (9, zI ((pk (fJ (XJ q st (nthL q a n) (nthL q b n)) (bj (XJ q st (nthL q a n) (nthL q b n)) (cN q a n) (cN q b n) ((cN q a n) - (i + 1))) i (us (XJ q st (nthL q a n) (nthL q b n)) (cN q a n) (cN q b n) i)) (bj (XJ q st (nthL q a n) (nthL q b n)) (cN q a n) (cN q b n) ((cN q a n) - i) (us (XJ q st (nthL q a n) (nthL q b n)) (cN q a n) (cN q b n) i)) j : Nat) : Int)), (10, zI ((j : Nat) : Int))]) G dX10_join_275 (by decide) rfl ?_
                                  refine wp_iinc (lv' := [(8, zI (((i : Nat) : Int) + 1)), (7, zI (((us (XJ q st (nthL q a n) (nthL q b n)) (cN q a n) (cN q b n) i) ||| (2 ^ (pk (fJ (XJ q st (nthL q a n) (nthL q b n)) (bj (XJ q st (nthL q a n) (nthL q b n)) (cN q a n) (cN q b n) ((cN q a n) - (i + 1))) i (us (XJ q st (nthL q a n) (nthL q b n)) (cN q a n) (cN q b n) i)) (bj (XJ q st (nthL q a n) (nthL q b n)) (cN q a n) (cN q b n) ((cN q a n) - i) (us (XJ q st (nthL q a n) (nthL q b n)) (cN q a n) (cN q b n) i)) j)) : Nat) : Int)), (0, zR 64), (1, zI a), (2, zI b), (3, zI ((xx : Nat) : Int)), (4, zI 1), (5, zI (bj (XJ q st (nthL q a n) (nthL q b n)) (cN q a n) (cN q b n) (cN q a n) 0)), (6, zI (((bj (XJ q st (nthL q a n) (nthL q b n)) (cN q a n) (cN q b n) (cN q a n) 0) + 9999) / 10000)), (9, zI ((pk (fJ (XJ q st (nthL q a n) (nthL q b n)) (bj (XJ q st (nthL q a n) (nthL q b n)) (cN q a n) (cN q b n) ((cN q a n) - (i + 1))) i (us (XJ q st (nthL q a n) (nthL q b n)) (cN q a n) (cN q b n) i)) (bj (XJ q st (nthL q a n) (nthL q b n)) (cN q a n) (cN q b n) ((cN q a n) - i) (us (XJ q st (nthL q a n) (nthL q b n)) (cN q a n) (cN q b n) i)) j : Nat) : Int)), (10, zI ((j : Nat) : Int))]) G 8 dX10_join_277 rfl (by decide) rfl ?_
                                  refine wp_goto G dX10_join_280 ?_
                                  refine wp_lv [2, 3, 4, 5, 6, 7, 8, 1, 0] rfl ?_
                                  exact ih157 (i + 1) (((us (XJ q st (nthL q a n) (nthL q b n)) (cN q a n) (cN q b n) i) ||| (2 ^ (pk (fJ (XJ q st (nthL q a n) (nthL q b n)) (bj (XJ q st (nthL q a n) (nthL q b n)) (cN q a n) (cN q b n) ((cN q a n) - (i + 1))) i (us (XJ q st (nthL q a n) (nthL q b n)) (cN q a n) (cN q b n) i)) (bj (XJ q st (nthL q a n) (nthL q b n)) (cN q a n) (cN q b n) ((cN q a n) - i) (us (XJ q st (nthL q a n) (nthL q b n)) (cN q a n) (cN q b n) i)) j)) : Nat) : Int) (((i : Nat) : Int) + 1) (by omega) (by first | (rw [us_s, if_pos (by omega)]; done) | (rw [us_s, if_neg (by omega), ← hpk]; done)) (by omega) (by have hne := nth_ne (i := i) (x := xx) (n := n) hqx (by omega); omega)
                                · skip
                                  refine wp_iload G 7 dX10_join_263 rfl ?_
                                  refine wp_goto G dX10_join_265 ?_
                                  refine wp_istore (lv' := [(7, zI ((us (XJ q st (nthL q a n) (nthL q b n)) (cN q a n) (cN q b n) i : Nat) : Int)), (0, zR 64), (1, zI a), (2, zI b), (3, zI ((xx : Nat) : Int)), (4, zI 1), (5, zI (bj (XJ q st (nthL q a n) (nthL q b n)) (cN q a n) (cN q b n) (cN q a n) 0)), (6, zI (((bj (XJ q st (nthL q a n) (nthL q b n)) (cN q a n) (cN q b n) (cN q a n) 0) + 9999) / 10000)), (8, zI ((i : Nat) : Int)), (9, zI (pkI (pk (fJ (XJ q st (nthL q a n) (nthL q b n)) (bj (XJ q st (nthL q a n) (nthL q b n)) (cN q a n) (cN q b n) ((cN q a n) - (i + 1))) i (us (XJ q st (nthL q a n) (nthL q b n)) (cN q a n) (cN q b n) i)) (bj (XJ q st (nthL q a n) (nthL q b n)) (cN q a n) (cN q b n) ((cN q a n) - i) (us (XJ q st (nthL q a n) (nthL q b n)) (cN q a n) (cN q b n) i)) j))), (10, zI ((j : Nat) : Int))]) G dX10_join_275 (by decide) rfl ?_
                                  refine wp_iinc (lv' := [(8, zI (((i : Nat) : Int) + 1)), (7, zI ((us (XJ q st (nthL q a n) (nthL q b n)) (cN q a n) (cN q b n) i : Nat) : Int)), (0, zR 64), (1, zI a), (2, zI b), (3, zI ((xx : Nat) : Int)), (4, zI 1), (5, zI (bj (XJ q st (nthL q a n) (nthL q b n)) (cN q a n) (cN q b n) (cN q a n) 0)), (6, zI (((bj (XJ q st (nthL q a n) (nthL q b n)) (cN q a n) (cN q b n) (cN q a n) 0) + 9999) / 10000)), (9, zI (pkI (pk (fJ (XJ q st (nthL q a n) (nthL q b n)) (bj (XJ q st (nthL q a n) (nthL q b n)) (cN q a n) (cN q b n) ((cN q a n) - (i + 1))) i (us (XJ q st (nthL q a n) (nthL q b n)) (cN q a n) (cN q b n) i)) (bj (XJ q st (nthL q a n) (nthL q b n)) (cN q a n) (cN q b n) ((cN q a n) - i) (us (XJ q st (nthL q a n) (nthL q b n)) (cN q a n) (cN q b n) i)) j))), (10, zI ((j : Nat) : Int))]) G 8 dX10_join_277 rfl (by decide) rfl ?_
                                  refine wp_goto G dX10_join_280 ?_
                                  refine wp_lv [2, 3, 4, 5, 6, 7, 8, 1, 0] rfl ?_
                                  exact ih157 (i + 1) ((us (XJ q st (nthL q a n) (nthL q b n)) (cN q a n) (cN q b n) i : Nat) : Int) (((i : Nat) : Int) + 1) (by omega) (by first | (rw [us_s, if_pos (by omega)]; done) | (rw [us_s, if_neg (by omega), ← hpk]; done)) (by omega) (by have hne := nth_ne (i := i) (x := xx) (n := n) hqx (by omega); omega)
                              · skip
                                refine wp_iload G 9 dX10_join_240 rfl ?_
                                refine wp_if_ge G dX10_join_242 (by omega) (fun kq40 => ?_) (fun kq40 => ?_)
                                · skip
                                  rw [show (pkI (pk (fJ (XJ q st (nthL q a n) (nthL q b n)) (bj (XJ q st (nthL q a n) (nthL q b n)) (cN q a n) (cN q b n) ((cN q a n) - (i + 1))) i (us (XJ q st (nthL q a n) (nthL q b n)) (cN q a n) (cN q b n) i)) (bj (XJ q st (nthL q a n) (nthL q b n)) (cN q a n) (cN q b n) ((cN q a n) - i) (us (XJ q st (nthL q a n) (nthL q b n)) (cN q a n) (cN q b n) i)) j) : Int) = ((pk (fJ (XJ q st (nthL q a n) (nthL q b n)) (bj (XJ q st (nthL q a n) (nthL q b n)) (cN q a n) (cN q b n) ((cN q a n) - (i + 1))) i (us (XJ q st (nthL q a n) (nthL q b n)) (cN q a n) (cN q b n) i)) (bj (XJ q st (nthL q a n) (nthL q b n)) (cN q a n) (cN q b n) ((cN q a n) - i) (us (XJ q st (nthL q a n) (nthL q b n)) (cN q a n) (cN q b n) i)) j : Nat) : Int) from pkI_y (by omega)]
                                  refine wp_aload_n G 0 dX10_join_250 rfl ?_
                                  refine wp_get G 11 cOk9 fX10_41 dX10_join_251 rfl rfl ?_
                                  refine wp_iload G 9 dX10_join_254 rfl ?_
                                  refine wp_iald (j := pk (fJ (XJ q st (nthL q a n) (nthL q b n)) (bj (XJ q st (nthL q a n) (nthL q b n)) (cN q a n) (cN q b n) ((cN q a n) - (i + 1))) i (us (XJ q st (nthL q a n) (nthL q b n)) (cN q a n) (cN q b n) i)) (bj (XJ q st (nthL q a n) (nthL q b n)) (cN q a n) (cN q b n) ((cN q a n) - i) (us (XJ q st (nthL q a n) (nthL q b n)) (cN q a n) (cN q b n) i)) j) G dX10_join_256 rfl rfl (by omega) (by decide) ?_
                                  rw [show ((Rb (pk (fJ (XJ q st (nthL q a n) (nthL q b n)) (bj (XJ q st (nthL q a n) (nthL q b n)) (cN q a n) (cN q b n) ((cN q a n) - (i + 1))) i (us (XJ q st (nthL q a n) (nthL q b n)) (cN q a n) (cN q b n) i)) (bj (XJ q st (nthL q a n) (nthL q b n)) (cN q a n) (cN q b n) ((cN q a n) - i) (us (XJ q st (nthL q a n) (nthL q b n)) (cN q a n) (cN q b n) i)) j)) : Int) = ((nthL q b n (pk (fJ (XJ q st (nthL q a n) (nthL q b n)) (bj (XJ q st (nthL q a n) (nthL q b n)) (cN q a n) (cN q b n) ((cN q a n) - (i + 1))) i (us (XJ q st (nthL q a n) (nthL q b n)) (cN q a n) (cN q b n) i)) (bj (XJ q st (nthL q a n) (nthL q b n)) (cN q a n) (cN q b n) ((cN q a n) - i) (us (XJ q st (nthL q a n) (nthL q b n)) (cN q a n) (cN q b n) i)) j) : Nat) : Int) from (hB2 _ (by omega)).1]
                                  exact wp_ireturn G hr dX10_join_257 (by have ei : i = cN q a xx := (by rw [← hnt.2.2]; congr 1; omega); exact ⟨rfl, by rw [ansJ_c (by omega) (by omega) (by omega), Int.toNat_natCast, ← ei, ← hpk]; first | (rw [if_pos (by omega)]; done) | (rw [if_neg (by omega)]), Or.inr ⟨_, _, Or.inr ⟨_, rfl⟩⟩⟩)
                                · skip
                                  refine wp_bipush G dX10_join_245 (by decide) ?_
                                  refine wp_goto G dX10_join_247 ?_
                                  exact wp_ireturn G hr dX10_join_257 (by have ei : i = cN q a xx := (by rw [← hnt.2.2]; congr 1; omega); exact ⟨rfl, by rw [ansJ_c (by omega) (by omega) (by omega), Int.toNat_natCast, ← ei, ← hpk]; first | (rw [if_pos (by omega)]; done) | (rw [if_neg (by omega)]), Or.inr ⟨_, _, Or.inr ⟨_, rfl⟩⟩⟩)
                            · skip
                              refine wp_iload G 9 dX10_join_182 rfl ?_
                              refine wp_if_ge G dX10_join_184 (by omega) (fun kq41 => ?_) (fun kq41 => ?_)
                              · skip
                                have hpk : pk (fJ (XJ q st (nthL q a n) (nthL q b n)) (bj (XJ q st (nthL q a n) (nthL q b n)) (cN q a n) (cN q b n) ((cN q a n) - (i + 1))) i (us (XJ q st (nthL q a n) (nthL q b n)) (cN q a n) (cN q b n) i)) (bj (XJ q st (nthL q a n) (nthL q b n)) (cN q a n) (cN q b n) ((cN q a n) - i) (us (XJ q st (nthL q a n) (nthL q b n)) (cN q a n) (cN q b n) i)) j = ch (XJ q st (nthL q a n) (nthL q b n)) (cN q a n) (cN q b n) i := pk_fin (by omega) (by omega)
                                have hp2 : 2 ^ (pk (fJ (XJ q st (nthL q a n) (nthL q b n)) (bj (XJ q st (nthL q a n) (nthL q b n)) (cN q a n) (cN q b n) ((cN q a n) - (i + 1))) i (us (XJ q st (nthL q a n) (nthL q b n)) (cN q a n) (cN q b n) i)) (bj (XJ q st (nthL q a n) (nthL q b n)) (cN q a n) (cN q b n) ((cN q a n) - i) (us (XJ q st (nthL q a n) (nthL q b n)) (cN q a n) (cN q b n) i)) j) ≤ 4096 := Nat.le_trans (Nat.pow_le_pow_right (by decide) (show pk (fJ (XJ q st (nthL q a n) (nthL q b n)) (bj (XJ q st (nthL q a n) (nthL q b n)) (cN q a n) (cN q b n) ((cN q a n) - (i + 1))) i (us (XJ q st (nthL q a n) (nthL q b n)) (cN q a n) (cN q b n) i)) (bj (XJ q st (nthL q a n) (nthL q b n)) (cN q a n) (cN q b n) ((cN q a n) - i) (us (XJ q st (nthL q a n) (nthL q b n)) (cN q a n) (cN q b n) i)) j ≤ 12 by omega)) (by decide)
                                refine wp_aload_n G 0 dX10_join_229 rfl ?_
                                refine wp_get G 10 cOk9 fX10_38 dX10_join_230 rfl rfl ?_
                                refine wp_iload G 8 dX10_join_233 rfl ?_
                                refine wp_iald (j := i) G dX10_join_235 rfl rfl (by omega) (by decide) ?_
                                rw [show ((Ra i) : Int) = ((nthL q a n i : Nat) : Int) from (hA2 i (by omega)).1]
                                have hnt := nth_ok (q := q) (a := a) (i := i) n (by omega)
                                refine wp_iload_n G 3 dX10_join_236 rfl ?_
                                refine wp_icmp_ne G dX10_join_237 (by omega) (by omega) (fun kq42 => ?_) (fun kq42 => ?_)
                                · skip
                                  refine wp_iload G 9 dX10_join_258 rfl ?_
                                  refine wp_if_ge G dX10_join_260 (by omega) (fun kq43 => ?_) (fun kq43 => ?_)
                                  · skip
                                    rw [show (pkI (pk (fJ (XJ q st (nthL q a n) (nthL q b n)) (bj (XJ q st (nthL q a n) (nthL q b n)) (cN q a n) (cN q b n) ((cN q a n) - (i + 1))) i (us (XJ q st (nthL q a n) (nthL q b n)) (cN q a n) (cN q b n) i)) (bj (XJ q st (nthL q a n) (nthL q b n)) (cN q a n) (cN q b n) ((cN q a n) - i) (us (XJ q st (nthL q a n) (nthL q b n)) (cN q a n) (cN q b n) i)) j) : Int) = ((pk (fJ (XJ q st (nthL q a n) (nthL q b n)) (bj (XJ q st (nthL q a n) (nthL q b n)) (cN q a n) (cN q b n) ((cN q a n) - (i + 1))) i (us (XJ q st (nthL q a n) (nthL q b n)) (cN q a n) (cN q b n) i)) (bj (XJ q st (nthL q a n) (nthL q b n)) (cN q a n) (cN q b n) ((cN q a n) - i) (us (XJ q st (nthL q a n) (nthL q b n)) (cN q a n) (cN q b n) i)) j : Nat) : Int) from pkI_y (by omega)]
                                    refine wp_iload G 7 dX10_join_268 rfl ?_
                                    refine wp_iconst G dX10_join_270 ?_
                                    refine wp_iload G 9 dX10_join_271 rfl ?_
                                    refine wp_ishl1 (k := pk (fJ (XJ q st (nthL q a n) (nthL q b n)) (bj (XJ q st (nthL q a n) (nthL q b n)) (cN q a n) (cN q b n) ((cN q a n) - (i + 1))) i (us (XJ q st (nthL q a n) (nthL q b n)) (cN q a n) (cN q b n) i)) (bj (XJ q st (nthL q a n) (nthL q b n)) (cN q a n) (cN q b n) ((cN q a n) - i) (us (XJ q st (nthL q a n) (nthL q b n)) (cN q a n) (cN q b n) i)) j) G rfl (by omega) dX10_join_273 ?_
                                    refine wp_ior (a := us (XJ q st (nthL q a n) (nthL q b n)) (cN q a n) (cN q b n) i) (b := 2 ^ (pk (fJ (XJ q st (nthL q a n) (nthL q b n)) (bj (XJ q st (nthL q a n) (nthL q b n)) (cN q a n) (cN q b n) ((cN q a n) - (i + 1))) i (us (XJ q st (nthL q a n) (nthL q b n)) (cN q a n) (cN q b n) i)) (bj (XJ q st (nthL q a n) (nthL q b n)) (cN q a n) (cN q b n) ((cN q a n) - i) (us (XJ q st (nthL q a n) (nthL q b n)) (cN q a n) (cN q b n) i)) j)) G rfl rfl (by omega) (by omega) dX10_join_274 ?_
                                    refine wp_istore (lv' := [(7, zI (((us (XJ q st (nthL q a n) (nthL q b n)) (cN q a n) (cN q b n) i) ||| (2 ^ (pk (fJ (XJ q st (nthL q a n) (nthL q b n)) (bj (XJ q st (nthL q a n) (nthL q b n)) (cN q a n) (cN q b n) ((cN q a n) - (i + 1))) i (us (XJ q st (nthL q a n) (nthL q b n)) (cN q a n) (cN q b n) i)) (bj (XJ q st (nthL q a n) (nthL q b n)) (cN q a n) (cN q b n) ((cN q a n) - i) (us (XJ q st (nthL q a n) (nthL q b n)) (cN q a n) (cN q b n) i)) j)) : Nat) : Int)), (0, zR 64), (1, zI a), (2, zI b), (3, zI ((xx : Nat) : Int)), (4, zI 1), (5, zI (bj (XJ q st (nthL q a n) (nthL q b n)) (cN q a n) (cN q b n) (cN q a n) 0)), (6, zI (((bj (XJ q st (nthL q a n) (nthL q b n)) (cN q a n) (cN q b n) (cN q a n) 0) + 9999) / 10000)), (8, zI ((i : Nat) : Int)), (9, zI ((pk (fJ (XJ q st (nthL q a n) (nthL q b n)) (bj (XJ q st (nthL q a n) (nthL q b n)) (cN q a n) (cN q b n) ((cN q a n) - (i + 1))) i (us (XJ q st (nthL q a n) (nthL q b n)) (cN q a n) (cN q b n) i)) (bj (XJ q st (nthL q a n) (nthL q b n)) (cN q a n) (cN q b n) ((cN q a n) - i) (us (XJ q st (nthL q a n) (nthL q b n)) (cN q a n) (cN q b n) i)) j : Nat) : Int)), (10, zI ((j : Nat) : Int))]) G dX10_join_275 (by decide) rfl ?_
                                    refine wp_iinc (lv' := [(8, zI (((i : Nat) : Int) + 1)), (7, zI (((us (XJ q st (nthL q a n) (nthL q b n)) (cN q a n) (cN q b n) i) ||| (2 ^ (pk (fJ (XJ q st (nthL q a n) (nthL q b n)) (bj (XJ q st (nthL q a n) (nthL q b n)) (cN q a n) (cN q b n) ((cN q a n) - (i + 1))) i (us (XJ q st (nthL q a n) (nthL q b n)) (cN q a n) (cN q b n) i)) (bj (XJ q st (nthL q a n) (nthL q b n)) (cN q a n) (cN q b n) ((cN q a n) - i) (us (XJ q st (nthL q a n) (nthL q b n)) (cN q a n) (cN q b n) i)) j)) : Nat) : Int)), (0, zR 64), (1, zI a), (2, zI b), (3, zI ((xx : Nat) : Int)), (4, zI 1), (5, zI (bj (XJ q st (nthL q a n) (nthL q b n)) (cN q a n) (cN q b n) (cN q a n) 0)), (6, zI (((bj (XJ q st (nthL q a n) (nthL q b n)) (cN q a n) (cN q b n) (cN q a n) 0) + 9999) / 10000)), (9, zI ((pk (fJ (XJ q st (nthL q a n) (nthL q b n)) (bj (XJ q st (nthL q a n) (nthL q b n)) (cN q a n) (cN q b n) ((cN q a n) - (i + 1))) i (us (XJ q st (nthL q a n) (nthL q b n)) (cN q a n) (cN q b n) i)) (bj (XJ q st (nthL q a n) (nthL q b n)) (cN q a n) (cN q b n) ((cN q a n) - i) (us (XJ q st (nthL q a n) (nthL q b n)) (cN q a n) (cN q b n) i)) j : Nat) : Int)), (10, zI ((j : Nat) : Int))]) G 8 dX10_join_277 rfl (by decide) rfl ?_
                                    refine wp_goto G dX10_join_280 ?_
                                    refine wp_lv [2, 3, 4, 5, 6, 7, 8, 1, 0] rfl ?_
                                    exact ih157 (i + 1) (((us (XJ q st (nthL q a n) (nthL q b n)) (cN q a n) (cN q b n) i) ||| (2 ^ (pk (fJ (XJ q st (nthL q a n) (nthL q b n)) (bj (XJ q st (nthL q a n) (nthL q b n)) (cN q a n) (cN q b n) ((cN q a n) - (i + 1))) i (us (XJ q st (nthL q a n) (nthL q b n)) (cN q a n) (cN q b n) i)) (bj (XJ q st (nthL q a n) (nthL q b n)) (cN q a n) (cN q b n) ((cN q a n) - i) (us (XJ q st (nthL q a n) (nthL q b n)) (cN q a n) (cN q b n) i)) j)) : Nat) : Int) (((i : Nat) : Int) + 1) (by omega) (by first | (rw [us_s, if_pos (by omega)]; done) | (rw [us_s, if_neg (by omega), ← hpk]; done)) (by omega) (by have hne := nth_ne (i := i) (x := xx) (n := n) hqx (by omega); omega)
                                  · skip
                                    refine wp_iload G 7 dX10_join_263 rfl ?_
                                    refine wp_goto G dX10_join_265 ?_
                                    refine wp_istore (lv' := [(7, zI ((us (XJ q st (nthL q a n) (nthL q b n)) (cN q a n) (cN q b n) i : Nat) : Int)), (0, zR 64), (1, zI a), (2, zI b), (3, zI ((xx : Nat) : Int)), (4, zI 1), (5, zI (bj (XJ q st (nthL q a n) (nthL q b n)) (cN q a n) (cN q b n) (cN q a n) 0)), (6, zI (((bj (XJ q st (nthL q a n) (nthL q b n)) (cN q a n) (cN q b n) (cN q a n) 0) + 9999) / 10000)), (8, zI ((i : Nat) : Int)), (9, zI (pkI (pk (fJ (XJ q st (nthL q a n) (nthL q b n)) (bj (XJ q st (nthL q a n) (nthL q b n)) (cN q a n) (cN q b n) ((cN q a n) - (i + 1))) i (us (XJ q st (nthL q a n) (nthL q b n)) (cN q a n) (cN q b n) i)) (bj (XJ q st (nthL q a n) (nthL q b n)) (cN q a n) (cN q b n) ((cN q a n) - i) (us (XJ q st (nthL q a n) (nthL q b n)) (cN q a n) (cN q b n) i)) j))), (10, zI ((j : Nat) : Int))]) G dX10_join_275 (by decide) rfl ?_
                                    refine wp_iinc (lv' := [(8, zI (((i : Nat) : Int) + 1)), (7, zI ((us (XJ q st (nthL q a n) (nthL q b n)) (cN q a n) (cN q b n) i : Nat) : Int)), (0, zR 64), (1, zI a), (2, zI b), (3, zI ((xx : Nat) : Int)), (4, zI 1), (5, zI (bj (XJ q st (nthL q a n) (nthL q b n)) (cN q a n) (cN q b n) (cN q a n) 0)), (6, zI (((bj (XJ q st (nthL q a n) (nthL q b n)) (cN q a n) (cN q b n) (cN q a n) 0) + 9999) / 10000)), (9, zI (pkI (pk (fJ (XJ q st (nthL q a n) (nthL q b n)) (bj (XJ q st (nthL q a n) (nthL q b n)) (cN q a n) (cN q b n) ((cN q a n) - (i + 1))) i (us (XJ q st (nthL q a n) (nthL q b n)) (cN q a n) (cN q b n) i)) (bj (XJ q st (nthL q a n) (nthL q b n)) (cN q a n) (cN q b n) ((cN q a n) - i) (us (XJ q st (nthL q a n) (nthL q b n)) (cN q a n) (cN q b n) i)) j))), (10, zI ((j : Nat) : Int))]) G 8 dX10_join_277 rfl (by decide) rfl ?_
                                    refine wp_goto G dX10_join_280 ?_
                                    refine wp_lv [2, 3, 4, 5, 6, 7, 8, 1, 0] rfl ?_
                                    exact ih157 (i + 1) ((us (XJ q st (nthL q a n) (nthL q b n)) (cN q a n) (cN q b n) i : Nat) : Int) (((i : Nat) : Int) + 1) (by omega) (by first | (rw [us_s, if_pos (by omega)]; done) | (rw [us_s, if_neg (by omega), ← hpk]; done)) (by omega) (by have hne := nth_ne (i := i) (x := xx) (n := n) hqx (by omega); omega)
                                · skip
                                  refine wp_iload G 9 dX10_join_240 rfl ?_
                                  refine wp_if_ge G dX10_join_242 (by omega) (fun kq44 => ?_) (fun kq44 => ?_)
                                  · skip
                                    rw [show (pkI (pk (fJ (XJ q st (nthL q a n) (nthL q b n)) (bj (XJ q st (nthL q a n) (nthL q b n)) (cN q a n) (cN q b n) ((cN q a n) - (i + 1))) i (us (XJ q st (nthL q a n) (nthL q b n)) (cN q a n) (cN q b n) i)) (bj (XJ q st (nthL q a n) (nthL q b n)) (cN q a n) (cN q b n) ((cN q a n) - i) (us (XJ q st (nthL q a n) (nthL q b n)) (cN q a n) (cN q b n) i)) j) : Int) = ((pk (fJ (XJ q st (nthL q a n) (nthL q b n)) (bj (XJ q st (nthL q a n) (nthL q b n)) (cN q a n) (cN q b n) ((cN q a n) - (i + 1))) i (us (XJ q st (nthL q a n) (nthL q b n)) (cN q a n) (cN q b n) i)) (bj (XJ q st (nthL q a n) (nthL q b n)) (cN q a n) (cN q b n) ((cN q a n) - i) (us (XJ q st (nthL q a n) (nthL q b n)) (cN q a n) (cN q b n) i)) j : Nat) : Int) from pkI_y (by omega)]
                                    refine wp_aload_n G 0 dX10_join_250 rfl ?_
                                    refine wp_get G 11 cOk9 fX10_41 dX10_join_251 rfl rfl ?_
                                    refine wp_iload G 9 dX10_join_254 rfl ?_
                                    refine wp_iald (j := pk (fJ (XJ q st (nthL q a n) (nthL q b n)) (bj (XJ q st (nthL q a n) (nthL q b n)) (cN q a n) (cN q b n) ((cN q a n) - (i + 1))) i (us (XJ q st (nthL q a n) (nthL q b n)) (cN q a n) (cN q b n) i)) (bj (XJ q st (nthL q a n) (nthL q b n)) (cN q a n) (cN q b n) ((cN q a n) - i) (us (XJ q st (nthL q a n) (nthL q b n)) (cN q a n) (cN q b n) i)) j) G dX10_join_256 rfl rfl (by omega) (by decide) ?_
                                    rw [show ((Rb (pk (fJ (XJ q st (nthL q a n) (nthL q b n)) (bj (XJ q st (nthL q a n) (nthL q b n)) (cN q a n) (cN q b n) ((cN q a n) - (i + 1))) i (us (XJ q st (nthL q a n) (nthL q b n)) (cN q a n) (cN q b n) i)) (bj (XJ q st (nthL q a n) (nthL q b n)) (cN q a n) (cN q b n) ((cN q a n) - i) (us (XJ q st (nthL q a n) (nthL q b n)) (cN q a n) (cN q b n) i)) j)) : Int) = ((nthL q b n (pk (fJ (XJ q st (nthL q a n) (nthL q b n)) (bj (XJ q st (nthL q a n) (nthL q b n)) (cN q a n) (cN q b n) ((cN q a n) - (i + 1))) i (us (XJ q st (nthL q a n) (nthL q b n)) (cN q a n) (cN q b n) i)) (bj (XJ q st (nthL q a n) (nthL q b n)) (cN q a n) (cN q b n) ((cN q a n) - i) (us (XJ q st (nthL q a n) (nthL q b n)) (cN q a n) (cN q b n) i)) j) : Nat) : Int) from (hB2 _ (by omega)).1]
                                    exact wp_ireturn G hr dX10_join_257 (by have ei : i = cN q a xx := (by rw [← hnt.2.2]; congr 1; omega); exact ⟨rfl, by rw [ansJ_c (by omega) (by omega) (by omega), Int.toNat_natCast, ← ei, ← hpk]; first | (rw [if_pos (by omega)]; done) | (rw [if_neg (by omega)]), Or.inr ⟨_, _, Or.inr ⟨_, rfl⟩⟩⟩)
                                  · skip
                                    refine wp_bipush G dX10_join_245 (by decide) ?_
                                    refine wp_goto G dX10_join_247 ?_
                                    exact wp_ireturn G hr dX10_join_257 (by have ei : i = cN q a xx := (by rw [← hnt.2.2]; congr 1; omega); exact ⟨rfl, by rw [ansJ_c (by omega) (by omega) (by omega), Int.toNat_natCast, ← ei, ← hpk]; first | (rw [if_pos (by omega)]; done) | (rw [if_neg (by omega)]), Or.inr ⟨_, _, Or.inr ⟨_, rfl⟩⟩⟩)
                              · skip
                                refine wp_aload_n G 0 dX10_join_187 rfl ?_
                                refine wp_iload G 8 dX10_join_188 rfl ?_
                                refine wp_iload G 7 dX10_join_190 rfl ?_
                                refine wp_iload G 10 dX10_join_192 rfl ?_
                                refine wp_cVE (b := 64) (ci := 9) (as := [zI ((i : Nat) : Int), zI ((us (XJ q st (nthL q a n) (nthL q b n)) (cN q a n) (cN q b n) i : Nat) : Int), zI ((j : Nat) : Int)]) (rest := []) (hp2 := (nx, h, [(74, oA 0 12 Ra), (64, oO 9 [zR 65, zR 66, zR 67, zR 68, zR 69, zR 70, zR 71, zI ((n : Nat) : Int), zR 72, zR 73, zR 74, zR 75, zI ((cN q a n : Nat) : Int), zI ((cN q b n : Nat) : Int), zR 76, zR 77, zR 78, zR 79, zR 80, zR 81, zI ((fc : Nat) : Int), zR 82, zR 83, zR 84, zR 85, zR 86, zR 87, zI ((hn : Nat) : Int), zR 88, zR 89, zR 90, zR 91, zR 92, zI ((ln : Nat) : Int)]), (75, oA 0 12 Rb), (76, oA 0 53248 Rc)])) G mX10_joinBy lX10_156 iX10_joinBy eX10_joinBy ⟨_, rfl, rfl⟩ dX10_join_194 rfl rfl rfl (Nat.le_of_ble_eq_true rfl) (rmx_ok hR (by decide) (by decide) (by decide) (by decide)) (t_X10_joinBy (nx := nx) (i := i) (s := (us (XJ q st (nthL q a n) (nthL q b n)) (cN q a n) (cN q b n) i)) (j := j) (ma := (cN q a n)) (mb := (cN q b n)) (la := (nthL q a n)) (lb := (nthL q b n)) (A := Ra) (B := Rb) (J := Rc) ⟨rfl, h65, h66, h67, h68, h69, h70, h71, h72, h73⟩ hO hN ⟨rfl, rfl, rfl⟩ (by omega) (by omega) hA2 hB2 (by omega) hus (by omega)) rfl ?_
                                rw [fJ_e (b := bj (XJ q st (nthL q a n) (nthL q b n)) (cN q a n) (cN q b n) ((cN q a n) - (i + 1))) (fun t ht => hx_c0 (i + 1) (Nat.zero_le _) (by omega) t ht) (or_lt hus (by omega))]
                                refine wp_aload_n G 0 dX10_join_197 rfl ?_
                                refine wp_get G 14 cOk9 fX10_45 dX10_join_198 rfl rfl ?_
                                refine wp_sipush G dX10_join_201 (by decide) ?_
                                refine wp_iload G 8 dX10_join_204 rfl ?_
                                refine wp_imul G dX10_join_206 ?_
                                refine wp_iload G 7 dX10_join_207 rfl ?_
                                refine wp_iadd G dX10_join_209 ?_
                                refine wp_iald (j := 4096 * i + us (XJ q st (nthL q a n) (nthL q b n)) (cN q a n) (cN q b n) i) G dX10_join_210 rfl (by omega) (by omega) (by decide) ?_
                                rw [show ((Rc (4096 * i + us (XJ q st (nthL q a n) (nthL q b n)) (cN q a n) (cN q b n) i)) : Int) = (bj (XJ q st (nthL q a n) (nthL q b n)) (cN q a n) (cN q b n) ((cN q a n) - i) (us (XJ q st (nthL q a n) (nthL q b n)) (cN q a n) (cN q b n) i)) from hx_c0 i (Nat.zero_le _) (by omega) _ hus]
                                refine wp_icmp_ne G dX10_join_211 (by omega) (by omega) (fun kq45 => ?_) (fun kq45 => ?_)
                                · skip
                                  refine wp_iload G 9 dX10_join_219 rfl ?_
                                  refine wp_istore (lv' := [(9, zI (pkI (pk (fJ (XJ q st (nthL q a n) (nthL q b n)) (bj (XJ q st (nthL q a n) (nthL q b n)) (cN q a n) (cN q b n) ((cN q a n) - (i + 1))) i (us (XJ q st (nthL q a n) (nthL q b n)) (cN q a n) (cN q b n) i)) (bj (XJ q st (nthL q a n) (nthL q b n)) (cN q a n) (cN q b n) ((cN q a n) - i) (us (XJ q st (nthL q a n) (nthL q b n)) (cN q a n) (cN q b n) i)) j))), (0, zR 64), (1, zI a), (2, zI b), (3, zI ((xx : Nat) : Int)), (4, zI 1), (5, zI (bj (XJ q st (nthL q a n) (nthL q b n)) (cN q a n) (cN q b n) (cN q a n) 0)), (6, zI (((bj (XJ q st (nthL q a n) (nthL q b n)) (cN q a n) (cN q b n) (cN q a n) 0) + 9999) / 10000)), (7, zI ((us (XJ q st (nthL q a n) (nthL q b n)) (cN q a n) (cN q b n) i : Nat) : Int)), (8, zI ((i : Nat) : Int)), (10, zI ((j : Nat) : Int))]) G dX10_join_221 (by decide) rfl ?_
                                  refine wp_iinc (lv' := [(10, zI (((j : Nat) : Int) + 1)), (9, zI (pkI (pk (fJ (XJ q st (nthL q a n) (nthL q b n)) (bj (XJ q st (nthL q a n) (nthL q b n)) (cN q a n) (cN q b n) ((cN q a n) - (i + 1))) i (us (XJ q st (nthL q a n) (nthL q b n)) (cN q a n) (cN q b n) i)) (bj (XJ q st (nthL q a n) (nthL q b n)) (cN q a n) (cN q b n) ((cN q a n) - i) (us (XJ q st (nthL q a n) (nthL q b n)) (cN q a n) (cN q b n) i)) j))), (0, zR 64), (1, zI a), (2, zI b), (3, zI ((xx : Nat) : Int)), (4, zI 1), (5, zI (bj (XJ q st (nthL q a n) (nthL q b n)) (cN q a n) (cN q b n) (cN q a n) 0)), (6, zI (((bj (XJ q st (nthL q a n) (nthL q b n)) (cN q a n) (cN q b n) (cN q a n) 0) + 9999) / 10000)), (7, zI ((us (XJ q st (nthL q a n) (nthL q b n)) (cN q a n) (cN q b n) i : Nat) : Int)), (8, zI ((i : Nat) : Int))]) G 10 dX10_join_223 rfl (by decide) rfl ?_
                                  refine wp_goto G dX10_join_226 ?_
                                  refine wp_lv [2, 3, 4, 5, 6, 7, 8, 9, 10, 1, 0] rfl ?_
                                  exact ih173 (j + 1) (pkI (pk (fJ (XJ q st (nthL q a n) (nthL q b n)) (bj (XJ q st (nthL q a n) (nthL q b n)) (cN q a n) (cN q b n) ((cN q a n) - (i + 1))) i (us (XJ q st (nthL q a n) (nthL q b n)) (cN q a n) (cN q b n) i)) (bj (XJ q st (nthL q a n) (nthL q b n)) (cN q a n) (cN q b n) ((cN q a n) - i) (us (XJ q st (nthL q a n) (nthL q b n)) (cN q a n) (cN q b n) i)) j)) (((j : Nat) : Int) + 1) (by omega) (by first | exact pkI_s (by omega) (by omega) (by omega) | exact pkI_k (by omega)) (by omega) (by omega)
                                · skip
                                  refine wp_iload G 10 dX10_join_214 rfl ?_
                                  refine wp_goto G dX10_join_216 ?_
                                  refine wp_istore (lv' := [(9, zI ((j : Nat) : Int)), (0, zR 64), (1, zI a), (2, zI b), (3, zI ((xx : Nat) : Int)), (4, zI 1), (5, zI (bj (XJ q st (nthL q a n) (nthL q b n)) (cN q a n) (cN q b n) (cN q a n) 0)), (6, zI (((bj (XJ q st (nthL q a n) (nthL q b n)) (cN q a n) (cN q b n) (cN q a n) 0) + 9999) / 10000)), (7, zI ((us (XJ q st (nthL q a n) (nthL q b n)) (cN q a n) (cN q b n) i : Nat) : Int)), (8, zI ((i : Nat) : Int)), (10, zI ((j : Nat) : Int))]) G dX10_join_221 (by decide) rfl ?_
                                  refine wp_iinc (lv' := [(10, zI (((j : Nat) : Int) + 1)), (9, zI ((j : Nat) : Int)), (0, zR 64), (1, zI a), (2, zI b), (3, zI ((xx : Nat) : Int)), (4, zI 1), (5, zI (bj (XJ q st (nthL q a n) (nthL q b n)) (cN q a n) (cN q b n) (cN q a n) 0)), (6, zI (((bj (XJ q st (nthL q a n) (nthL q b n)) (cN q a n) (cN q b n) (cN q a n) 0) + 9999) / 10000)), (7, zI ((us (XJ q st (nthL q a n) (nthL q b n)) (cN q a n) (cN q b n) i : Nat) : Int)), (8, zI ((i : Nat) : Int))]) G 10 dX10_join_223 rfl (by decide) rfl ?_
                                  refine wp_goto G dX10_join_226 ?_
                                  refine wp_lv [2, 3, 4, 5, 6, 7, 8, 9, 10, 1, 0] rfl ?_
                                  exact ih173 (j + 1) ((j : Nat) : Int) (((j : Nat) : Int) + 1) (by omega) (by first | exact pkI_s (by omega) (by omega) (by omega) | exact pkI_k (by omega)) (by omega) (by omega)
                    · skip
                      exfalso; omega
                  · skip
                    refine wp_bipush G dX10_join_100 (by decide) ?_
                    exact wp_ireturn G hr dX10_join_102 (by exact ⟨rfl, by rw [ansJ_5 (by omega) (by omega)], Or.inr ⟨_, _, Or.inl rfl⟩⟩)

