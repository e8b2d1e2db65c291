theorem as_pair {c12 : PC} {c11 : PC} {c13 : PC} {c27 : PC} {c26 : PC} {c25 : PC} {c24 : PC} {c23 : PC} {c22 : PC} {c21 : PC} {c20 : PC} {c19 : PC} {c18 : PC} {c17 : PC} {c16 : PC} {c15 : PC} {c31 : PC} {c29 : PC} {c28 : PC} {c30 : PC} {c32 : PC} {c33 : PC} : asets [] [(12, c12), (11, c11), (13, c13), (27, c27), (26, c26), (25, c25), (24, c24), (23, c23), (22, c22), (21, c21), (20, c20), (19, c19), (18, c18), (17, c17), (16, c16), (15, c15), (31, c31), (29, c29), (28, c28), (30, c30), (32, c32), (33, c33)] = [(33, c33), (32, c32), (30, c30), (28, c28), (29, c29), (31, c31), (15, c15), (16, c16), (17, c17), (18, c18), (19, c19), (20, c20), (21, c21), (22, c22), (23, c23), (24, c24), (25, c25), (26, c26), (27, c27), (13, c13), (11, c11), (12, c12)] := by
  simp [asets, aset]

set_option maxRecDepth 100000 in
set_option maxHeartbeats 4000000 in
theorem t_X9_join {nx : Nat} {h : Nat → Option PC} {n : Nat} {q : Nat → Nat → Int} {o : Nat → Nat} {pa : Int} {mi : Int} {rw_ : Nat} {pt : Nat} {cl : Nat} {u : Nat → Int} {v : Nat → Int} {sl : Nat → Int} {ro : Nat → Int} {be : Nat → Int} {re : Nat → Int} {C0 : Nat → Nat → Int} {A0 : Nat → Int} {B0 : Nat → Int} {st : Nat → Int} {a : Int} {b : Int} {fc : Nat} {x : Int} (hQ : isQ h n q o) (hO : okQ n q o) (hJ : isJo h pa mi rw_ pt cl u v sl ro be re) (hre : ∀ j, j < 25 → re j = 0 ∨ re j = 1) (h14 : h 14 = some (oP 3 13 (fun i => some (15 + i)))) (hC : ∀ i, i < 13 → h (15 + i) = some (oL 2 25 (C0 i))) (h12 : h 12 = some (oA 0 12 A0)) (h13 : h 13 = some (oA 0 12 B0)) (hN : okN st) (ri_a : r32 a) (ri_b : r32 b) (h0 : h 0 = some (oO 8 [zR 1, zR 2, zR 11, zR 34, zR 36, zR 42, zR 44, zI ((fc : Nat) : Int), zR 45, zR 48])) (h1 : h 1 = some (oA 0 5 st)) (ri_x : r32 x) : Cx 6 (0, 0) yX9_join cX9_join 5 (some .int) [zR 0, zI a, zI b, zI x] nx h (fun rr nx' l' => rr = some (zI (ansJ n q st a b x)) ∧ nx' = nx ∧ (l' = [] ∨ ∃ (A : Nat → Int) (B : Nat → Int) (C : Nat → Nat → Int) (m : Nat → Nat) (U : Nat → Int) (V : Nat → Int) (M : Nat → Int) (S : Nat → Int) (Bf : Nat → Int) (E : Nat → Int), (∀ j, j < 25 → E j = 0 ∨ E j = 1) ∧ l' = [(33, oA 1 25 E), (32, oA 0 25 Bf), (30, oL 2 25 S), (28, oL 2 13 U), (29, oL 2 25 V), (31, oA 0 25 M), (15, oL 2 25 (C 0)), (16, oL 2 25 (C 1)), (17, oL 2 25 (C 2)), (18, oL 2 25 (C 3)), (19, oL 2 25 (C 4)), (20, oL 2 25 (C 5)), (21, oL 2 25 (C 6)), (22, oL 2 25 (C 7)), (23, oL 2 25 (C 8)), (24, oL 2 25 (C 9)), (25, oL 2 25 (C 10)), (26, oL 2 25 (C 11)), (27, oL 2 25 (C 12)), (13, oA 0 12 B), (11, oO 3 [zI (cntZ (fun c => m (c + 1) ≠ 0) (cN q b n)), zI (sumZ (fun c => ifZ (m (c + 1) ≠ 0) (mQ q ((nthL q a n) (m (c + 1) - 1)) ((nthL q b n) c)) 0) (cN q b n)), zI ((cN q a n : Nat) : Int), zI ((cN q b n : Nat) : Int), zI ((cN q b n + cN q a n : Nat) : Int), zR 12, zR 13, zR 14, zR 28, zR 29, zR 30, zR 31, zR 32, zR 33]), (12, oA 0 12 A)])) := by
  refine cx_of pnX9_join (Nat.le_of_ble_eq_true rfl) ?_
  intro K G hr hnm hR
  obtain ⟨h2, h3, h4, h5, h6, h7, h8, h9, h10⟩ := id hQ
  have hn40 := hO.1
  obtain ⟨h11, h28, h29, h30, h31, h32, h33⟩ := id hJ
  obtain ⟨hN0, hN1, hN2, hN3, hN4⟩ := id hN
  have hca := cN_le q a n
  have hcb := cN_le q b n
  show Wp K 5 (Mx K h (fun rr nx' l' => rr = some (zI (ansJ n q st a b x)) ∧ nx' = nx ∧ (l' = [] ∨ ∃ (A : Nat → Int) (B : Nat → Int) (C : Nat → Nat → Int) (m : Nat → Nat) (U : Nat → Int) (V : Nat → Int) (M : Nat → Int) (S : Nat → Int) (Bf : Nat → Int) (E : Nat → Int), (∀ j, j < 25 → E j = 0 ∨ E j = 1) ∧ l' = [(33, oA 1 25 E), (32, oA 0 25 Bf), (30, oL 2 25 S), (28, oL 2 13 U), (29, oL 2 25 V), (31, oA 0 25 M), (15, oL 2 25 (C 0)), (16, oL 2 25 (C 1)), (17, oL 2 25 (C 2)), (18, oL 2 25 (C 3)), (19, oL 2 25 (C 4)), (20, oL 2 25 (C 5)), (21, oL 2 25 (C 6)), (22, oL 2 25 (C 7)), (23, oL 2 25 (C 8)), (24, oL 2 25 (C 9)), (25, oL 2 25 (C 10)), (26, oL 2 25 (C 11)), (27, oL 2 25 (C 12)), (13, oA 0 12 B), (11, oO 3 [zI (cntZ (fun c => m (c + 1) ≠ 0) (cN q b n)), zI (sumZ (fun c => ifZ (m (c + 1) ≠ 0) (mQ q ((nthL q a n) (m (c + 1) - 1)) ((nthL q b n) c)) 0) (cN q b n)), zI ((cN q a n : Nat) : Int), zI ((cN q b n : Nat) : Int), zI ((cN q b n + cN q a n : Nat) : Int), zR 12, zR 13, zR 14, zR 28, zR 29, zR 30, zR 31, zR 32, zR 33]), (12, oA 0 12 A)])) (0, 0)) (0, 0) 0 [(0, zR 0), (1, zI a), (2, zI b), (3, zI x)] [] (nx, h, [])
  refine wp_iload_n G 1 dX9_join_0 rfl ?_
  refine wp_cSE (as := [zI a]) (rest := []) (hp2 := (nx, h, [])) G mX9_isList lX9_72 sX9_isList dX9_join_1 rfl rfl (Nat.le_of_ble_eq_true rfl) (rmx_ok hR (by decide) (by decide) (by decide) (by decide)) (t_X9_isList (nx := nx) (v := a) (by omega)) rfl ?_
  refine wp_ifeq_bt G dX9_join_4 (fun kq1 => ?_) (fun kq1 => ?_)
  · skip
    refine wp_iconst G dX9_join_19 ?_
    exact wp_ireturn G hr dX9_join_20 (by exact ⟨by rw [ansJ_1 (by omega)], rfl, Or.inl rfl⟩)
  · skip
    refine wp_iload_n G 2 dX9_join_7 rfl ?_
    refine wp_cSE (as := [zI b]) (rest := []) (hp2 := (nx, h, [])) G mX9_isList lX9_72 sX9_isList dX9_join_8 rfl rfl (Nat.le_of_ble_eq_true rfl) (rmx_ok hR (by decide) (by decide) (by decide) (by decide)) (t_X9_isList (nx := nx) (v := b) (by omega)) rfl ?_
    refine wp_ifeq_bt G dX9_join_11 (fun kq2 => ?_) (fun kq2 => ?_)
    · skip
      refine wp_iconst G dX9_join_19 ?_
      exact wp_ireturn G hr dX9_join_20 (by exact ⟨by rw [ansJ_1 (by omega)], rfl, Or.inl rfl⟩)
    · skip
      refine wp_iload_n G 1 dX9_join_14 rfl ?_
      refine wp_iload_n G 2 dX9_join_15 rfl ?_
      refine wp_icmp_ne G dX9_join_16 (by omega) (by omega) (fun kq3 => ?_) (fun kq3 => ?_)
      · skip
        refine wp_iload_n G 3 dX9_join_21 rfl ?_
        refine wp_iconst G dX9_join_22 ?_
        refine wp_icmp_eq G dX9_join_23 (by omega) (by omega) (fun kq4 => ?_) (fun kq4 => ?_)
        · skip
          refine wp_iconst G dX9_join_32 ?_
          refine wp_goto G dX9_join_33 ?_
          refine wp_istore (lv' := [(4, zI 1), (0, zR 0), (1, zI a), (2, zI b), (3, zI x)]) G dX9_join_37 (by decide) rfl ?_
          refine wp_iload G 0 dX9_join_39 rfl ?_
          refine wp_if_ne G dX9_join_41 (by omega) (fun _ => ?_) (fun z => by exfalso; omega)
          refine wp_aload_n G 1 dX9_join_70 rfl ?_
          refine wp_get G 1 cOk8 fX9_16 dX9_join_71 h0 rfl ?_
          refine wp_iload_n G 2 dX9_join_74 rfl ?_
          refine wp_cVE (b := 2) (ci := 5) (as := [zI a]) (rest := []) (hp2 := (nx, h, [])) G mX6_howManyIn lX9_137 iX6_howManyIn eX6_howManyIn ⟨_, rfl, rfl⟩ dX9_join_75 h2 rfl rfl (Nat.le_of_ble_eq_true rfl) (rmx_ok hR (by decide) (by decide) (by decide) (by decide)) (t_X6_howManyIn (nx := nx) (a := a) hQ hO ri_a) rfl ?_
          rw [cN_cnt]
          refine wp_bipush G dX9_join_78 (by decide) ?_
          refine wp_icmp_gt G dX9_join_80 (by omega) (by omega) (fun kq6 => ?_) (fun kq6 => ?_)
          · skip
            refine wp_bipush G dX9_join_96 (by decide) ?_
            exact wp_ireturn G hr dX9_join_98 (by exact ⟨by rw [ansJ_5 (by omega) (by omega)], rfl, Or.inl rfl⟩)
          · skip
            refine wp_aload_n G 1 dX9_join_83 rfl ?_
            refine wp_get G 1 cOk8 fX9_16 dX9_join_84 h0 rfl ?_
            refine wp_iload_n G 3 dX9_join_87 rfl ?_
            refine wp_cVE (b := 2) (ci := 5) (as := [zI b]) (rest := []) (hp2 := (nx, h, [])) G mX6_howManyIn lX9_137 iX6_howManyIn eX6_howManyIn ⟨_, rfl, rfl⟩ dX9_join_88 h2 rfl rfl (Nat.le_of_ble_eq_true rfl) (rmx_ok hR (by decide) (by decide) (by decide) (by decide)) (t_X6_howManyIn (nx := nx) (a := b) hQ hO ri_b) rfl ?_
            rw [cN_cnt]
            refine wp_bipush G dX9_join_91 (by decide) ?_
            refine wp_icmp_le G dX9_join_93 (by omega) (by omega) (fun kq7 => ?_) (fun kq7 => ?_)
            · skip
              refine wp_aload_n G 1 dX9_join_99 rfl ?_
              refine wp_get G 2 cOk8 fX9_23 dX9_join_100 h0 rfl ?_
              refine wp_aload_n G 1 dX9_join_103 rfl ?_
              refine wp_get G 1 cOk8 fX9_16 dX9_join_104 h0 rfl ?_
              refine wp_iload_n G 2 dX9_join_107 rfl ?_
              refine wp_iload_n G 3 dX9_join_108 rfl ?_
              refine wp_aload_n G 1 dX9_join_109 rfl ?_
              refine wp_get G 0 cOk8 fX9_7 dX9_join_110 h0 rfl ?_
              refine wp_iconst G dX9_join_113 ?_
              refine wp_iald (j := 0) G dX9_join_114 h1 rfl (by decide) (by decide) ?_
              have rrq1 := hN.r 0 (by decide)
              refine wp_aload_n G 1 dX9_join_115 rfl ?_
              refine wp_get G 0 cOk8 fX9_7 dX9_join_116 h0 rfl ?_
              refine wp_iconst G dX9_join_119 ?_
              refine wp_iald (j := 1) G dX9_join_120 h1 rfl (by decide) (by decide) ?_
              have rrq2 := hN.r 1 (by decide)
              refine wp_aload_n G 1 dX9_join_121 rfl ?_
              refine wp_get G 0 cOk8 fX9_7 dX9_join_122 h0 rfl ?_
              refine wp_iconst G dX9_join_125 ?_
              refine wp_iald (j := 2) G dX9_join_126 h1 rfl (by decide) (by decide) ?_
              have rrq3 := hN.r 2 (by decide)
              refine wp_callV (mm := (0, 0)) (b := 11) (ci := 3) (as := [zR 2, zI a, zI b, zI (st 0), zI (st 1), zI (st 2)]) (rest := []) G mX3_pairUp lX9_140 iX3_pairUp eX3_pairUp ⟨_, rfl, rfl⟩ dX9_join_127 h11 rfl rfl (Nat.le_of_ble_eq_true rfl) (rmx_ok hR (by decide) (by decide) (by decide) (by decide)) (t_X3_pairUp (nx := nx) (a := a) (b := b) (st := st) hQ hO hJ hre h14 hC h12 h13 hN ri_a ri_b (by omega) (by omega)) (fun rr nx' l' hq => ?_)
              obtain ⟨Ap , Bp , Cp , mp , Up , Vp , Mp , Sp , Bfp , Ep , hx_p0 , hx_p1 , hx_p2 , hx_p3 , hx_p4 , hx_p5 , hx_p6 , rfl , enx , rfl⟩ := hq
              subst nx'
              rw [as_pair]
              show Wp K 5 (Mx K h (fun rr nx' l' => rr = some (zI (ansJ n q st a b x)) ∧ nx' = nx ∧ (l' = [] ∨ ∃ (A : Nat → Int) (B : Nat → Int) (C : Nat → Nat → Int) (m : Nat → Nat) (U : Nat → Int) (V : Nat → Int) (M : Nat → Int) (S : Nat → Int) (Bf : Nat → Int) (E : Nat → Int), (∀ j, j < 25 → E j = 0 ∨ E j = 1) ∧ l' = [(33, oA 1 25 E), (32, oA 0 25 Bf), (30, oL 2 25 S), (28, oL 2 13 U), (29, oL 2 25 V), (31, oA 0 25 M), (15, oL 2 25 (C 0)), (16, oL 2 25 (C 1)), (17, oL 2 25 (C 2)), (18, oL 2 25 (C 3)), (19, oL 2 25 (C 4)), (20, oL 2 25 (C 5)), (21, oL 2 25 (C 6)), (22, oL 2 25 (C 7)), (23, oL 2 25 (C 8)), (24, oL 2 25 (C 9)), (25, oL 2 25 (C 10)), (26, oL 2 25 (C 11)), (27, oL 2 25 (C 12)), (13, oA 0 12 B), (11, oO 3 [zI (cntZ (fun c => m (c + 1) ≠ 0) (cN q b n)), zI (sumZ (fun c => ifZ (m (c + 1) ≠ 0) (mQ q ((nthL q a n) (m (c + 1) - 1)) ((nthL q b n) c)) 0) (cN q b n)), zI ((cN q a n : Nat) : Int), zI ((cN q b n : Nat) : Int), zI ((cN q b n + cN q a n : Nat) : Int), zR 12, zR 13, zR 14, zR 28, zR 29, zR 30, zR 31, zR 32, zR 33]), (12, oA 0 12 A)])) (0, 0)) (0, 0) 130 [(4, zI 1), (0, zR 0), (1, zI a), (2, zI b), (3, zI x)] [] (nx, h, [(33, oA 1 25 Ep), (32, oA 0 25 Bfp), (30, oL 2 25 Sp), (28, oL 2 13 Up), (29, oL 2 25 Vp), (31, oA 0 25 Mp), (15, oL 2 25 (Cp 0)), (16, oL 2 25 (Cp 1)), (17, oL 2 25 (Cp 2)), (18, oL 2 25 (Cp 3)), (19, oL 2 25 (Cp 4)), (20, oL 2 25 (Cp 5)), (21, oL 2 25 (Cp 6)), (22, oL 2 25 (Cp 7)), (23, oL 2 25 (Cp 8)), (24, oL 2 25 (Cp 9)), (25, oL 2 25 (Cp 10)), (26, oL 2 25 (Cp 11)), (27, oL 2 25 (Cp 12)), (13, oA 0 12 Bp), (11, oO 3 [zI (cntZ (fun c => mp (c + 1) ≠ 0) (cN q b n)), zI (sumZ (fun c => ifZ (mp (c + 1) ≠ 0) (mQ q ((nthL q a n) (mp (c + 1) - 1)) ((nthL q b n) c)) 0) (cN q b n)), zI ((cN q a n : Nat) : Int), zI ((cN q b n : Nat) : Int), zI ((cN q b n + cN q a n : Nat) : Int), zR 12, zR 13, zR 14, zR 28, zR 29, zR 30, zR 31, zR 32, zR 33]), (12, oA 0 12 Ap)])
              have ha12 : cN q a n ≤ 12 := by omega
              have hb12 : cN q b n ≤ 12 := by omega
              have hjm := join_m (XJ_b (q := q) (la := nthL q a n) (lb := nthL q b n) hN) ha12 hb12 hx_p2 hx_p3 hx_p4
              have hle : ∀ c, c < cN q b n → mp (c + 1) ≤ cN q a n := fun c hc => hx_p4.le (c + 1) (by omega) (by omega)
              have hnums := join_nums hN hb12 hle hjm
              refine wp_iload_n G 4 dX9_join_130 rfl ?_
              refine wp_iconst G dX9_join_131 ?_
              refine wp_icmp_ne G dX9_join_132 (by omega) (by omega) (fun kq8 => ?_) (fun kq8 => ?_)
              · skip
                refine wp_iload_n G 4 dX9_join_143 rfl ?_
                refine wp_bipush G dX9_join_144 (by decide) ?_
                refine wp_icmp_ne G dX9_join_146 (by omega) (by omega) (fun kq9 => ?_) (fun kq9 => ?_)
                · skip
                  refine wp_aload_n G 1 dX9_join_159 rfl ?_
                  refine wp_get G 2 cOk8 fX9_23 dX9_join_160 h0 rfl ?_
                  refine wp_iload_n G 4 dX9_join_163 rfl ?_
                  refine wp_cVE (b := 11) (ci := 3) (as := [zI x]) (rest := []) (hp2 := (nx, h, [(33, oA 1 25 Ep), (32, oA 0 25 Bfp), (30, oL 2 25 Sp), (28, oL 2 13 Up), (29, oL 2 25 Vp), (31, oA 0 25 Mp), (15, oL 2 25 (Cp 0)), (16, oL 2 25 (Cp 1)), (17, oL 2 25 (Cp 2)), (18, oL 2 25 (Cp 3)), (19, oL 2 25 (Cp 4)), (20, oL 2 25 (Cp 5)), (21, oL 2 25 (Cp 6)), (22, oL 2 25 (Cp 7)), (23, oL 2 25 (Cp 8)), (24, oL 2 25 (Cp 9)), (25, oL 2 25 (Cp 10)), (26, oL 2 25 (Cp 11)), (27, oL 2 25 (Cp 12)), (13, oA 0 12 Bp), (11, oO 3 [zI (cntZ (fun c => mp (c + 1) ≠ 0) (cN q b n)), zI (sumZ (fun c => ifZ (mp (c + 1) ≠ 0) (mQ q ((nthL q a n) (mp (c + 1) - 1)) ((nthL q b n) c)) 0) (cN q b n)), zI ((cN q a n : Nat) : Int), zI ((cN q b n : Nat) : Int), zI ((cN q b n + cN q a n : Nat) : Int), zR 12, zR 13, zR 14, zR 28, zR 29, zR 30, zR 31, zR 32, zR 33]), (12, oA 0 12 Ap)])) G mX3_partnerOf lX9_150 iX3_partnerOf eX3_partnerOf ⟨_, rfl, rfl⟩ dX9_join_164 rfl rfl rfl (Nat.le_of_ble_eq_true rfl) (rmx_ok hR (by decide) (by decide) (by decide) (by decide)) (t_X3_partnerOf (nx := nx) (x := x) (rw_ := (cN q a n)) (pt := (cN q b n)) (cl := (cN q b n + cN q a n)) (A := Ap) (B := Bp) (la := (nthL q a n)) (lb := (nthL q b n)) (rn := mp) (u := Up) (v := Vp) (sl := Sp) (ro := Mp) (be := Bfp) (re := Ep) hQ hO ⟨rfl, rfl, rfl, rfl, rfl, rfl, rfl⟩ ha12 (by omega) hx_p6 rfl rfl hb12 (by omega) hx_p0 hx_p1 (fun j h1 h2 => ⟨hx_p5 j h1 h2, hx_p4.le j h1 (by omega)⟩) ri_x) rfl ?_
                  exact wp_ireturn G hr dX9_join_167 (by first | (exfalso; omega) | exact ⟨by rw [ansJ_b (by omega) (by omega) (by omega), ← hnums.2], rfl, Or.inr ⟨Ap, Bp, Cp, mp, Up, Vp, Mp, Sp, Bfp, Ep, hx_p6, rfl⟩⟩ | exact ⟨by obtain ⟨y, rfl⟩ := Int.eq_ofNat_of_zero_le (show 0 ≤ x by omega); rw [ansJ_c (by omega) (by omega) (by omega), Int.toNat_natCast]; rw [join_part (fun i j => (XJ_b (q := q) (la := nthL q a n) (lb := nthL q b n) hN i j).2) hb12 rfl hle hjm (by omega) (by have hz : q 0 ((y : Nat) : Int).toNat = a := (by omega); rw [Int.toNat_natCast] at hz; exact hz)], rfl, Or.inr ⟨Ap, Bp, Cp, mp, Up, Vp, Mp, Sp, Bfp, Ep, hx_p6, rfl⟩⟩)
                · skip
                  refine wp_aload_n G 1 dX9_join_149 rfl ?_
                  refine wp_get G 2 cOk8 fX9_23 dX9_join_150 h0 rfl ?_
                  refine wp_get G 1 cOk3 fX9_147 dX9_join_153 rfl rfl ?_
                  refine wp_goto G dX9_join_156 ?_
                  exact wp_ireturn G hr dX9_join_167 (by first | (exfalso; omega) | exact ⟨by rw [ansJ_b (by omega) (by omega) (by omega), ← hnums.2], rfl, Or.inr ⟨Ap, Bp, Cp, mp, Up, Vp, Mp, Sp, Bfp, Ep, hx_p6, rfl⟩⟩ | exact ⟨by obtain ⟨y, rfl⟩ := Int.eq_ofNat_of_zero_le (show 0 ≤ x by omega); rw [ansJ_c (by omega) (by omega) (by omega), Int.toNat_natCast]; rw [join_part (fun i j => (XJ_b (q := q) (la := nthL q a n) (lb := nthL q b n) hN i j).2) hb12 rfl hle hjm (by omega) (by have hz : q 0 ((y : Nat) : Int).toNat = a := (by omega); rw [Int.toNat_natCast] at hz; exact hz)], rfl, Or.inr ⟨Ap, Bp, Cp, mp, Up, Vp, Mp, Sp, Bfp, Ep, hx_p6, rfl⟩⟩)
              · skip
                refine wp_aload_n G 1 dX9_join_135 rfl ?_
                refine wp_get G 2 cOk8 fX9_23 dX9_join_136 h0 rfl ?_
                refine wp_get G 0 cOk3 fX9_144 dX9_join_139 rfl rfl ?_
                exact wp_ireturn G hr dX9_join_142 (by first | (exfalso; omega) | exact ⟨by rw [ansJ_a (by omega) (by omega) (by omega), ← hnums.1], rfl, Or.inr ⟨Ap, Bp, Cp, mp, Up, Vp, Mp, Sp, Bfp, Ep, hx_p6, rfl⟩⟩)
            · skip
              refine wp_bipush G dX9_join_96 (by decide) ?_
              exact wp_ireturn G hr dX9_join_98 (by exact ⟨by rw [ansJ_5 (by omega) (by omega)], rfl, Or.inl rfl⟩)
        · skip
          refine wp_iload_n G 3 dX9_join_26 rfl ?_
          refine wp_bipush G dX9_join_27 (by decide) ?_
          refine wp_icmp_ne G dX9_join_29 (by omega) (by omega) (fun kq10 => ?_) (fun kq10 => ?_)
          · skip
            refine wp_iconst G dX9_join_36 ?_
            refine wp_istore (lv' := [(4, zI 0), (0, zR 0), (1, zI a), (2, zI b), (3, zI x)]) G dX9_join_37 (by decide) rfl ?_
            refine wp_iload G 0 dX9_join_39 rfl ?_
            refine wp_if_ne G dX9_join_41 (by omega) (fun z => by exfalso; omega) (fun _ => ?_)
            refine wp_aload_n G 1 dX9_join_44 rfl ?_
            refine wp_get G 1 cOk8 fX9_16 dX9_join_45 h0 rfl ?_
            refine wp_iload_n G 4 dX9_join_48 rfl ?_
            refine wp_cVE (b := 2) (ci := 5) (as := [zI x]) (rest := []) (hp2 := (nx, h, [])) G mX6_has lX9_94 iX6_has eX6_has ⟨_, rfl, rfl⟩ dX9_join_49 h2 rfl rfl (Nat.le_of_ble_eq_true rfl) (rmx_ok hR (by decide) (by decide) (by decide) (by decide)) (t_X6_has (nx := nx) (v := x) hQ hO (by omega)) rfl ?_
            refine wp_ifeq_bt G dX9_join_52 (fun kq12 => ?_) (fun kq12 => ?_)
            · skip
              refine wp_iconst G dX9_join_68 ?_
              exact wp_ireturn G hr dX9_join_69 (by exact ⟨by rw [ansJ_1 (by omega)], rfl, Or.inl rfl⟩)
            · skip
              refine wp_aload_n G 1 dX9_join_55 rfl ?_
              refine wp_get G 1 cOk8 fX9_16 dX9_join_56 h0 rfl ?_
              refine wp_get G 1 cOk5 fX9_108 dX9_join_59 h2 rfl ?_
              refine wp_iload_n G 4 dX9_join_62 rfl ?_
              refine wp_iald (j := (x).toNat) G dX9_join_63 h3 (by omega) (by omega) (by decide) ?_
              have rrq4 := hO.l ((x).toNat) (by omega)
              refine wp_iload_n G 2 dX9_join_64 rfl ?_
              refine wp_icmp_eq G dX9_join_65 (by omega) (by omega) (fun kq13 => ?_) (fun kq13 => ?_)
              · skip
                refine wp_aload_n G 1 dX9_join_70 rfl ?_
                refine wp_get G 1 cOk8 fX9_16 dX9_join_71 h0 rfl ?_
                refine wp_iload_n G 2 dX9_join_74 rfl ?_
                refine wp_cVE (b := 2) (ci := 5) (as := [zI a]) (rest := []) (hp2 := (nx, h, [])) G mX6_howManyIn lX9_137 iX6_howManyIn eX6_howManyIn ⟨_, rfl, rfl⟩ dX9_join_75 h2 rfl rfl (Nat.le_of_ble_eq_true rfl) (rmx_ok hR (by decide) (by decide) (by decide) (by decide)) (t_X6_howManyIn (nx := nx) (a := a) hQ hO ri_a) rfl ?_
                rw [cN_cnt]
                refine wp_bipush G dX9_join_78 (by decide) ?_
                refine wp_icmp_gt G dX9_join_80 (by omega) (by omega) (fun kq14 => ?_) (fun kq14 => ?_)
                · skip
                  refine wp_bipush G dX9_join_96 (by decide) ?_
                  exact wp_ireturn G hr dX9_join_98 (by exact ⟨by rw [ansJ_5 (by omega) (by omega)], rfl, Or.inl rfl⟩)
                · skip
                  refine wp_aload_n G 1 dX9_join_83 rfl ?_
                  refine wp_get G 1 cOk8 fX9_16 dX9_join_84 h0 rfl ?_
                  refine wp_iload_n G 3 dX9_join_87 rfl ?_
                  refine wp_cVE (b := 2) (ci := 5) (as := [zI b]) (rest := []) (hp2 := (nx, h, [])) G mX6_howManyIn lX9_137 iX6_howManyIn eX6_howManyIn ⟨_, rfl, rfl⟩ dX9_join_88 h2 rfl rfl (Nat.le_of_ble_eq_true rfl) (rmx_ok hR (by decide) (by decide) (by decide) (by decide)) (t_X6_howManyIn (nx := nx) (a := b) hQ hO ri_b) rfl ?_
                  rw [cN_cnt]
                  refine wp_bipush G dX9_join_91 (by decide) ?_
                  refine wp_icmp_le G dX9_join_93 (by omega) (by omega) (fun kq15 => ?_) (fun kq15 => ?_)
                  · skip
                    refine wp_aload_n G 1 dX9_join_99 rfl ?_
                    refine wp_get G 2 cOk8 fX9_23 dX9_join_100 h0 rfl ?_
                    refine wp_aload_n G 1 dX9_join_103 rfl ?_
                    refine wp_get G 1 cOk8 fX9_16 dX9_join_104 h0 rfl ?_
                    refine wp_iload_n G 2 dX9_join_107 rfl ?_
                    refine wp_iload_n G 3 dX9_join_108 rfl ?_
                    refine wp_aload_n G 1 dX9_join_109 rfl ?_
                    refine wp_get G 0 cOk8 fX9_7 dX9_join_110 h0 rfl ?_
                    refine wp_iconst G dX9_join_113 ?_
                    refine wp_iald (j := 0) G dX9_join_114 h1 rfl (by decide) (by decide) ?_
                    have rrq5 := hN.r 0 (by decide)
                    refine wp_aload_n G 1 dX9_join_115 rfl ?_
                    refine wp_get G 0 cOk8 fX9_7 dX9_join_116 h0 rfl ?_
                    refine wp_iconst G dX9_join_119 ?_
                    refine wp_iald (j := 1) G dX9_join_120 h1 rfl (by decide) (by decide) ?_
                    have rrq6 := hN.r 1 (by decide)
                    refine wp_aload_n G 1 dX9_join_121 rfl ?_
                    refine wp_get G 0 cOk8 fX9_7 dX9_join_122 h0 rfl ?_
                    refine wp_iconst G dX9_join_125 ?_
                    refine wp_iald (j := 2) G dX9_join_126 h1 rfl (by decide) (by decide) ?_
                    have rrq7 := hN.r 2 (by decide)
                    refine wp_callV (mm := (0, 0)) (b := 11) (ci := 3) (as := [zR 2, zI a, zI b, zI (st 0), zI (st 1), zI (st 2)]) (rest := []) G mX3_pairUp lX9_140 iX3_pairUp eX3_pairUp ⟨_, rfl, rfl⟩ dX9_join_127 h11 rfl rfl (Nat.le_of_ble_eq_true rfl) (rmx_ok hR (by decide) (by decide) (by decide) (by decide)) (t_X3_pairUp (nx := nx) (a := a) (b := b) (st := st) hQ hO hJ hre h14 hC h12 h13 hN ri_a ri_b (by omega) (by omega)) (fun rr nx' l' hq => ?_)
                    obtain ⟨Ap , Bp , Cp , mp , Up , Vp , Mp , Sp , Bfp , Ep , hx_p0 , hx_p1 , hx_p2 , hx_p3 , hx_p4 , hx_p5 , hx_p6 , rfl , enx , rfl⟩ := hq
                    subst nx'
                    rw [as_pair]
                    show Wp K 5 (Mx K h (fun rr nx' l' => rr = some (zI (ansJ n q st a b x)) ∧ nx' = nx ∧ (l' = [] ∨ ∃ (A : Nat → Int) (B : Nat → Int) (C : Nat → Nat → Int) (m : Nat → Nat) (U : Nat → Int) (V : Nat → Int) (M : Nat → Int) (S : Nat → Int) (Bf : Nat → Int) (E : Nat → Int), (∀ j, j < 25 → E j = 0 ∨ E j = 1) ∧ l' = [(33, oA 1 25 E), (32, oA 0 25 Bf), (30, oL 2 25 S), (28, oL 2 13 U), (29, oL 2 25 V), (31, oA 0 25 M), (15, oL 2 25 (C 0)), (16, oL 2 25 (C 1)), (17, oL 2 25 (C 2)), (18, oL 2 25 (C 3)), (19, oL 2 25 (C 4)), (20, oL 2 25 (C 5)), (21, oL 2 25 (C 6)), (22, oL 2 25 (C 7)), (23, oL 2 25 (C 8)), (24, oL 2 25 (C 9)), (25, oL 2 25 (C 10)), (26, oL 2 25 (C 11)), (27, oL 2 25 (C 12)), (13, oA 0 12 B), (11, oO 3 [zI (cntZ (fun c => m (c + 1) ≠ 0) (cN q b n)), zI (sumZ (fun c => ifZ (m (c + 1) ≠ 0) (mQ q ((nthL q a n) (m (c + 1) - 1)) ((nthL q b n) c)) 0) (cN q b n)), zI ((cN q a n : Nat) : Int), zI ((cN q b n : Nat) : Int), zI ((cN q b n + cN q a n : Nat) : Int), zR 12, zR 13, zR 14, zR 28, zR 29, zR 30, zR 31, zR 32, zR 33]), (12, oA 0 12 A)])) (0, 0)) (0, 0) 130 [(4, zI 0), (0, zR 0), (1, zI a), (2, zI b), (3, zI x)] [] (nx, h, [(33, oA 1 25 Ep), (32, oA 0 25 Bfp), (30, oL 2 25 Sp), (28, oL 2 13 Up), (29, oL 2 25 Vp), (31, oA 0 25 Mp), (15, oL 2 25 (Cp 0)), (16, oL 2 25 (Cp 1)), (17, oL 2 25 (Cp 2)), (18, oL 2 25 (Cp 3)), (19, oL 2 25 (Cp 4)), (20, oL 2 25 (Cp 5)), (21, oL 2 25 (Cp 6)), (22, oL 2 25 (Cp 7)), (23, oL 2 25 (Cp 8)), (24, oL 2 25 (Cp 9)), (25, oL 2 25 (Cp 10)), (26, oL 2 25 (Cp 11)), (27, oL 2 25 (Cp 12)), (13, oA 0 12 Bp), (11, oO 3 [zI (cntZ (fun c => mp (c + 1) ≠ 0) (cN q b n)), zI (sumZ (fun c => ifZ (mp (c + 1) ≠ 0) (mQ q ((nthL q a n) (mp (c + 1) - 1)) ((nthL q b n) c)) 0) (cN q b n)), zI ((cN q a n : Nat) : Int), zI ((cN q b n : Nat) : Int), zI ((cN q b n + cN q a n : Nat) : Int), zR 12, zR 13, zR 14, zR 28, zR 29, zR 30, zR 31, zR 32, zR 33]), (12, oA 0 12 Ap)])
                    have ha12 : cN q a n ≤ 12 := by omega
                    have hb12 : cN q b n ≤ 12 := by omega
                    have hjm := join_m (XJ_b (q := q) (la := nthL q a n) (lb := nthL q b n) hN) ha12 hb12 hx_p2 hx_p3 hx_p4
                    have hle : ∀ c, c < cN q b n → mp (c + 1) ≤ cN q a n := fun c hc => hx_p4.le (c + 1) (by omega) (by omega)
                    have hnums := join_nums hN hb12 hle hjm
                    refine wp_iload_n G 4 dX9_join_130 rfl ?_
                    refine wp_iconst G dX9_join_131 ?_
                    refine wp_icmp_ne G dX9_join_132 (by omega) (by omega) (fun kq16 => ?_) (fun kq16 => ?_)
                    · skip
                      refine wp_iload_n G 4 dX9_join_143 rfl ?_
                      refine wp_bipush G dX9_join_144 (by decide) ?_
                      refine wp_icmp_ne G dX9_join_146 (by omega) (by omega) (fun kq17 => ?_) (fun kq17 => ?_)
                      · skip
                        refine wp_aload_n G 1 dX9_join_159 rfl ?_
                        refine wp_get G 2 cOk8 fX9_23 dX9_join_160 h0 rfl ?_
                        refine wp_iload_n G 4 dX9_join_163 rfl ?_
                        refine wp_cVE (b := 11) (ci := 3) (as := [zI x]) (rest := []) (hp2 := (nx, h, [(33, oA 1 25 Ep), (32, oA 0 25 Bfp), (30, oL 2 25 Sp), (28, oL 2 13 Up), (29, oL 2 25 Vp), (31, oA 0 25 Mp), (15, oL 2 25 (Cp 0)), (16, oL 2 25 (Cp 1)), (17, oL 2 25 (Cp 2)), (18, oL 2 25 (Cp 3)), (19, oL 2 25 (Cp 4)), (20, oL 2 25 (Cp 5)), (21, oL 2 25 (Cp 6)), (22, oL 2 25 (Cp 7)), (23, oL 2 25 (Cp 8)), (24, oL 2 25 (Cp 9)), (25, oL 2 25 (Cp 10)), (26, oL 2 25 (Cp 11)), (27, oL 2 25 (Cp 12)), (13, oA 0 12 Bp), (11, oO 3 [zI (cntZ (fun c => mp (c + 1) ≠ 0) (cN q b n)), zI (sumZ (fun c => ifZ (mp (c + 1) ≠ 0) (mQ q ((nthL q a n) (mp (c + 1) - 1)) ((nthL q b n) c)) 0) (cN q b n)), zI ((cN q a n : Nat) : Int), zI ((cN q b n : Nat) : Int), zI ((cN q b n + cN q a n : Nat) : Int), zR 12, zR 13, zR 14, zR 28, zR 29, zR 30, zR 31, zR 32, zR 33]), (12, oA 0 12 Ap)])) G mX3_partnerOf lX9_150 iX3_partnerOf eX3_partnerOf ⟨_, rfl, rfl⟩ dX9_join_164 rfl rfl rfl (Nat.le_of_ble_eq_true rfl) (rmx_ok hR (by decide) (by decide) (by decide) (by decide)) (t_X3_partnerOf (nx := nx) (x := x) (rw_ := (cN q a n)) (pt := (cN q b n)) (cl := (cN q b n + cN q a n)) (A := Ap) (B := Bp) (la := (nthL q a n)) (lb := (nthL q b n)) (rn := mp) (u := Up) (v := Vp) (sl := Sp) (ro := Mp) (be := Bfp) (re := Ep) hQ hO ⟨rfl, rfl, rfl, rfl, rfl, rfl, rfl⟩ ha12 (by omega) hx_p6 rfl rfl hb12 (by omega) hx_p0 hx_p1 (fun j h1 h2 => ⟨hx_p5 j h1 h2, hx_p4.le j h1 (by omega)⟩) ri_x) rfl ?_
                        exact wp_ireturn G hr dX9_join_167 (by first | (exfalso; omega) | exact ⟨by rw [ansJ_b (by omega) (by omega) (by omega), ← hnums.2], rfl, Or.inr ⟨Ap, Bp, Cp, mp, Up, Vp, Mp, Sp, Bfp, Ep, hx_p6, rfl⟩⟩ | exact ⟨by obtain ⟨y, rfl⟩ := Int.eq_ofNat_of_zero_le (show 0 ≤ x by omega); rw [ansJ_c (by omega) (by omega) (by omega), Int.toNat_natCast]; rw [join_part (fun i j => (XJ_b (q := q) (la := nthL q a n) (lb := nthL q b n) hN i j).2) hb12 rfl hle hjm (by omega) (by have hz : q 0 ((y : Nat) : Int).toNat = a := (by omega); rw [Int.toNat_natCast] at hz; exact hz)], rfl, Or.inr ⟨Ap, Bp, Cp, mp, Up, Vp, Mp, Sp, Bfp, Ep, hx_p6, rfl⟩⟩)
                      · skip
                        refine wp_aload_n G 1 dX9_join_149 rfl ?_
                        refine wp_get G 2 cOk8 fX9_23 dX9_join_150 h0 rfl ?_
                        refine wp_get G 1 cOk3 fX9_147 dX9_join_153 rfl rfl ?_
                        refine wp_goto G dX9_join_156 ?_
                        exact wp_ireturn G hr dX9_join_167 (by first | (exfalso; omega) | exact ⟨by rw [ansJ_b (by omega) (by omega) (by omega), ← hnums.2], rfl, Or.inr ⟨Ap, Bp, Cp, mp, Up, Vp, Mp, Sp, Bfp, Ep, hx_p6, rfl⟩⟩ | exact ⟨by obtain ⟨y, rfl⟩ := Int.eq_ofNat_of_zero_le (show 0 ≤ x by omega); rw [ansJ_c (by omega) (by omega) (by omega), Int.toNat_natCast]; rw [join_part (fun i j => (XJ_b (q := q) (la := nthL q a n) (lb := nthL q b n) hN i j).2) hb12 rfl hle hjm (by omega) (by have hz : q 0 ((y : Nat) : Int).toNat = a := (by omega); rw [Int.toNat_natCast] at hz; exact hz)], rfl, Or.inr ⟨Ap, Bp, Cp, mp, Up, Vp, Mp, Sp, Bfp, Ep, hx_p6, rfl⟩⟩)
                    · skip
                      refine wp_aload_n G 1 dX9_join_135 rfl ?_
                      refine wp_get G 2 cOk8 fX9_23 dX9_join_136 h0 rfl ?_
                      refine wp_get G 0 cOk3 fX9_144 dX9_join_139 rfl rfl ?_
                      exact wp_ireturn G hr dX9_join_142 (by first | (exfalso; omega) | exact ⟨by rw [ansJ_a (by omega) (by omega) (by omega), ← hnums.1], rfl, Or.inr ⟨Ap, Bp, Cp, mp, Up, Vp, Mp, Sp, Bfp, Ep, hx_p6, rfl⟩⟩)
                  · skip
                    refine wp_bipush G dX9_join_96 (by decide) ?_
                    exact wp_ireturn G hr dX9_join_98 (by exact ⟨by rw [ansJ_5 (by omega) (by omega)], rfl, Or.inl rfl⟩)
              · skip
                refine wp_iconst G dX9_join_68 ?_
                exact wp_ireturn G hr dX9_join_69 (by exact ⟨by rw [ansJ_1 (by omega)], rfl, Or.inl rfl⟩)
          · skip
            refine wp_iconst G dX9_join_32 ?_
            refine wp_goto G dX9_join_33 ?_
            refine wp_istore (lv' := [(4, zI 1), (0, zR 0), (1, zI a), (2, zI b), (3, zI x)]) G dX9_join_37 (by decide) rfl ?_
            refine wp_iload G 0 dX9_join_39 rfl ?_
            refine wp_if_ne G dX9_join_41 (by omega) (fun _ => ?_) (fun z => by exfalso; omega)
            refine wp_aload_n G 1 dX9_join_70 rfl ?_
            refine wp_get G 1 cOk8 fX9_16 dX9_join_71 h0 rfl ?_
            refine wp_iload_n G 2 dX9_join_74 rfl ?_
            refine wp_cVE (b := 2) (ci := 5) (as := [zI a]) (rest := []) (hp2 := (nx, h, [])) G mX6_howManyIn lX9_137 iX6_howManyIn eX6_howManyIn ⟨_, rfl, rfl⟩ dX9_join_75 h2 rfl rfl (Nat.le_of_ble_eq_true rfl) (rmx_ok hR (by decide) (by decide) (by decide) (by decide)) (t_X6_howManyIn (nx := nx) (a := a) hQ hO ri_a) rfl ?_
            rw [cN_cnt]
            refine wp_bipush G dX9_join_78 (by decide) ?_
            refine wp_icmp_gt G dX9_join_80 (by omega) (by omega) (fun kq19 => ?_) (fun kq19 => ?_)
            · skip
              refine wp_bipush G dX9_join_96 (by decide) ?_
              exact wp_ireturn G hr dX9_join_98 (by exact ⟨by rw [ansJ_5 (by omega) (by omega)], rfl, Or.inl rfl⟩)
            · skip
              refine wp_aload_n G 1 dX9_join_83 rfl ?_
              refine wp_get G 1 cOk8 fX9_16 dX9_join_84 h0 rfl ?_
              refine wp_iload_n G 3 dX9_join_87 rfl ?_
              refine wp_cVE (b := 2) (ci := 5) (as := [zI b]) (rest := []) (hp2 := (nx, h, [])) G mX6_howManyIn lX9_137 iX6_howManyIn eX6_howManyIn ⟨_, rfl, rfl⟩ dX9_join_88 h2 rfl rfl (Nat.le_of_ble_eq_true rfl) (rmx_ok hR (by decide) (by decide) (by decide) (by decide)) (t_X6_howManyIn (nx := nx) (a := b) hQ hO ri_b) rfl ?_
              rw [cN_cnt]
              refine wp_bipush G dX9_join_91 (by decide) ?_
              refine wp_icmp_le G dX9_join_93 (by omega) (by omega) (fun kq20 => ?_) (fun kq20 => ?_)
              · skip
                refine wp_aload_n G 1 dX9_join_99 rfl ?_
                refine wp_get G 2 cOk8 fX9_23 dX9_join_100 h0 rfl ?_
                refine wp_aload_n G 1 dX9_join_103 rfl ?_
                refine wp_get G 1 cOk8 fX9_16 dX9_join_104 h0 rfl ?_
                refine wp_iload_n G 2 dX9_join_107 rfl ?_
                refine wp_iload_n G 3 dX9_join_108 rfl ?_
                refine wp_aload_n G 1 dX9_join_109 rfl ?_
                refine wp_get G 0 cOk8 fX9_7 dX9_join_110 h0 rfl ?_
                refine wp_iconst G dX9_join_113 ?_
                refine wp_iald (j := 0) G dX9_join_114 h1 rfl (by decide) (by decide) ?_
                have rrq8 := hN.r 0 (by decide)
                refine wp_aload_n G 1 dX9_join_115 rfl ?_
                refine wp_get G 0 cOk8 fX9_7 dX9_join_116 h0 rfl ?_
                refine wp_iconst G dX9_join_119 ?_
                refine wp_iald (j := 1) G dX9_join_120 h1 rfl (by decide) (by decide) ?_
                have rrq9 := hN.r 1 (by decide)
                refine wp_aload_n G 1 dX9_join_121 rfl ?_
                refine wp_get G 0 cOk8 fX9_7 dX9_join_122 h0 rfl ?_
                refine wp_iconst G dX9_join_125 ?_
                refine wp_iald (j := 2) G dX9_join_126 h1 rfl (by decide) (by decide) ?_
                have rrq10 := hN.r 2 (by decide)
                refine wp_callV (mm := (0, 0)) (b := 11) (ci := 3) (as := [zR 2, zI a, zI b, zI (st 0), zI (st 1), zI (st 2)]) (rest := []) G mX3_pairUp lX9_140 iX3_pairUp eX3_pairUp ⟨_, rfl, rfl⟩ dX9_join_127 h11 rfl rfl (Nat.le_of_ble_eq_true rfl) (rmx_ok hR (by decide) (by decide) (by decide) (by decide)) (t_X3_pairUp (nx := nx) (a := a) (b := b) (st := st) hQ hO hJ hre h14 hC h12 h13 hN ri_a ri_b (by omega) (by omega)) (fun rr nx' l' hq => ?_)
                obtain ⟨Ap , Bp , Cp , mp , Up , Vp , Mp , Sp , Bfp , Ep , hx_p0 , hx_p1 , hx_p2 , hx_p3 , hx_p4 , hx_p5 , hx_p6 , rfl , enx , rfl⟩ := hq
                subst nx'
                rw [as_pair]
                show Wp K 5 (Mx K h (fun rr nx' l' => rr = some (zI (ansJ n q st a b x)) ∧ nx' = nx ∧ (l' = [] ∨ ∃ (A : Nat → Int) (B : Nat → Int) (C : Nat → Nat → Int) (m : Nat → Nat) (U : Nat → Int) (V : Nat → Int) (M : Nat → Int) (S : Nat → Int) (Bf : Nat → Int) (E : Nat → Int), (∀ j, j < 25 → E j = 0 ∨ E j = 1) ∧ l' = [(33, oA 1 25 E), (32, oA 0 25 Bf), (30, oL 2 25 S), (28, oL 2 13 U), (29, oL 2 25 V), (31, oA 0 25 M), (15, oL 2 25 (C 0)), (16, oL 2 25 (C 1)), (17, oL 2 25 (C 2)), (18, oL 2 25 (C 3)), (19, oL 2 25 (C 4)), (20, oL 2 25 (C 5)), (21, oL 2 25 (C 6)), (22, oL 2 25 (C 7)), (23, oL 2 25 (C 8)), (24, oL 2 25 (C 9)), (25, oL 2 25 (C 10)), (26, oL 2 25 (C 11)), (27, oL 2 25 (C 12)), (13, oA 0 12 B), (11, oO 3 [zI (cntZ (fun c => m (c + 1) ≠ 0) (cN q b n)), zI (sumZ (fun c => ifZ (m (c + 1) ≠ 0) (mQ q ((nthL q a n) (m (c + 1) - 1)) ((nthL q b n) c)) 0) (cN q b n)), zI ((cN q a n : Nat) : Int), zI ((cN q b n : Nat) : Int), zI ((cN q b n + cN q a n : Nat) : Int), zR 12, zR 13, zR 14, zR 28, zR 29, zR 30, zR 31, zR 32, zR 33]), (12, oA 0 12 A)])) (0, 0)) (0, 0) 130 [(4, zI 1), (0, zR 0), (1, zI a), (2, zI b), (3, zI x)] [] (nx, h, [(33, oA 1 25 Ep), (32, oA 0 25 Bfp), (30, oL 2 25 Sp), (28, oL 2 13 Up), (29, oL 2 25 Vp), (31, oA 0 25 Mp), (15, oL 2 25 (Cp 0)), (16, oL 2 25 (Cp 1)), (17, oL 2 25 (Cp 2)), (18, oL 2 25 (Cp 3)), (19, oL 2 25 (Cp 4)), (20, oL 2 25 (Cp 5)), (21, oL 2 25 (Cp 6)), (22, oL 2 25 (Cp 7)), (23, oL 2 25 (Cp 8)), (24, oL 2 25 (Cp 9)), (25, oL 2 25 (Cp 10)), (26, oL 2 25 (Cp 11)), (27, oL 2 25 (Cp 12)), (13, oA 0 12 Bp), (11, oO 3 [zI (cntZ (fun c => mp (c + 1) ≠ 0) (cN q b n)), zI (sumZ (fun c => ifZ (mp (c + 1) ≠ 0) (mQ q ((nthL q a n) (mp (c + 1) - 1)) ((nthL q b n) c)) 0) (cN q b n)), zI ((cN q a n : Nat) : Int), zI ((cN q b n : Nat) : Int), zI ((cN q b n + cN q a n : Nat) : Int), zR 12, zR 13, zR 14, zR 28, zR 29, zR 30, zR 31, zR 32, zR 33]), (12, oA 0 12 Ap)])
                have ha12 : cN q a n ≤ 12 := by omega
                have hb12 : cN q b n ≤ 12 := by omega
                have hjm := join_m (XJ_b (q := q) (la := nthL q a n) (lb := nthL q b n) hN) ha12 hb12 hx_p2 hx_p3 hx_p4
                have hle : ∀ c, c < cN q b n → mp (c + 1) ≤ cN q a n := fun c hc => hx_p4.le (c + 1) (by omega) (by omega)
                have hnums := join_nums hN hb12 hle hjm
                refine wp_iload_n G 4 dX9_join_130 rfl ?_
                refine wp_iconst G dX9_join_131 ?_
                refine wp_icmp_ne G dX9_join_132 (by omega) (by omega) (fun kq21 => ?_) (fun kq21 => ?_)
                · skip
                  refine wp_iload_n G 4 dX9_join_143 rfl ?_
                  refine wp_bipush G dX9_join_144 (by decide) ?_
                  refine wp_icmp_ne G dX9_join_146 (by omega) (by omega) (fun kq22 => ?_) (fun kq22 => ?_)
                  · skip
                    refine wp_aload_n G 1 dX9_join_159 rfl ?_
                    refine wp_get G 2 cOk8 fX9_23 dX9_join_160 h0 rfl ?_
                    refine wp_iload_n G 4 dX9_join_163 rfl ?_
                    refine wp_cVE (b := 11) (ci := 3) (as := [zI x]) (rest := []) (hp2 := (nx, h, [(33, oA 1 25 Ep), (32, oA 0 25 Bfp), (30, oL 2 25 Sp), (28, oL 2 13 Up), (29, oL 2 25 Vp), (31, oA 0 25 Mp), (15, oL 2 25 (Cp 0)), (16, oL 2 25 (Cp 1)), (17, oL 2 25 (Cp 2)), (18, oL 2 25 (Cp 3)), (19, oL 2 25 (Cp 4)), (20, oL 2 25 (Cp 5)), (21, oL 2 25 (Cp 6)), (22, oL 2 25 (Cp 7)), (23, oL 2 25 (Cp 8)), (24, oL 2 25 (Cp 9)), (25, oL 2 25 (Cp 10)), (26, oL 2 25 (Cp 11)), (27, oL 2 25 (Cp 12)), (13, oA 0 12 Bp), (11, oO 3 [zI (cntZ (fun c => mp (c + 1) ≠ 0) (cN q b n)), zI (sumZ (fun c => ifZ (mp (c + 1) ≠ 0) (mQ q ((nthL q a n) (mp (c + 1) - 1)) ((nthL q b n) c)) 0) (cN q b n)), zI ((cN q a n : Nat) : Int), zI ((cN q b n : Nat) : Int), zI ((cN q b n + cN q a n : Nat) : Int), zR 12, zR 13, zR 14, zR 28, zR 29, zR 30, zR 31, zR 32, zR 33]), (12, oA 0 12 Ap)])) G mX3_partnerOf lX9_150 iX3_partnerOf eX3_partnerOf ⟨_, rfl, rfl⟩ dX9_join_164 rfl rfl rfl (Nat.le_of_ble_eq_true rfl) (rmx_ok hR (by decide) (by decide) (by decide) (by decide)) (t_X3_partnerOf (nx := nx) (x := x) (rw_ := (cN q a n)) (pt := (cN q b n)) (cl := (cN q b n + cN q a n)) (A := Ap) (B := Bp) (la := (nthL q a n)) (lb := (nthL q b n)) (rn := mp) (u := Up) (v := Vp) (sl := Sp) (ro := Mp) (be := Bfp) (re := Ep) hQ hO ⟨rfl, rfl, rfl, rfl, rfl, rfl, rfl⟩ ha12 (by omega) hx_p6 rfl rfl hb12 (by omega) hx_p0 hx_p1 (fun j h1 h2 => ⟨hx_p5 j h1 h2, hx_p4.le j h1 (by omega)⟩) ri_x) rfl ?_
                    exact wp_ireturn G hr dX9_join_167 (by first | (exfalso; omega) | exact ⟨by rw [ansJ_b (by omega) (by omega) (by omega), ← hnums.2], rfl, Or.inr ⟨Ap, Bp, Cp, mp, Up, Vp, Mp, Sp, Bfp, Ep, hx_p6, rfl⟩⟩ | exact ⟨by obtain ⟨y, rfl⟩ := Int.eq_ofNat_of_zero_le (show 0 ≤ x by omega); rw [ansJ_c (by omega) (by omega) (by omega), Int.toNat_natCast]; rw [join_part (fun i j => (XJ_b (q := q) (la := nthL q a n) (lb := nthL q b n) hN i j).2) hb12 rfl hle hjm (by omega) (by have hz : q 0 ((y : Nat) : Int).toNat = a := (by omega); rw [Int.toNat_natCast] at hz; exact hz)], rfl, Or.inr ⟨Ap, Bp, Cp, mp, Up, Vp, Mp, Sp, Bfp, Ep, hx_p6, rfl⟩⟩)
                  · skip
                    refine wp_aload_n G 1 dX9_join_149 rfl ?_
                    refine wp_get G 2 cOk8 fX9_23 dX9_join_150 h0 rfl ?_
                    refine wp_get G 1 cOk3 fX9_147 dX9_join_153 rfl rfl ?_
                    refine wp_goto G dX9_join_156 ?_
                    exact wp_ireturn G hr dX9_join_167 (by first | (exfalso; omega) | exact ⟨by rw [ansJ_b (by omega) (by omega) (by omega), ← hnums.2], rfl, Or.inr ⟨Ap, Bp, Cp, mp, Up, Vp, Mp, Sp, Bfp, Ep, hx_p6, rfl⟩⟩ | exact ⟨by obtain ⟨y, rfl⟩ := Int.eq_ofNat_of_zero_le (show 0 ≤ x by omega); rw [ansJ_c (by omega) (by omega) (by omega), Int.toNat_natCast]; rw [join_part (fun i j => (XJ_b (q := q) (la := nthL q a n) (lb := nthL q b n) hN i j).2) hb12 rfl hle hjm (by omega) (by have hz : q 0 ((y : Nat) : Int).toNat = a := (by omega); rw [Int.toNat_natCast] at hz; exact hz)], rfl, Or.inr ⟨Ap, Bp, Cp, mp, Up, Vp, Mp, Sp, Bfp, Ep, hx_p6, rfl⟩⟩)
                · skip
                  refine wp_aload_n G 1 dX9_join_135 rfl ?_
                  refine wp_get G 2 cOk8 fX9_23 dX9_join_136 h0 rfl ?_
                  refine wp_get G 0 cOk3 fX9_144 dX9_join_139 rfl rfl ?_
                  exact wp_ireturn G hr dX9_join_142 (by first | (exfalso; omega) | exact ⟨by rw [ansJ_a (by omega) (by omega) (by omega), ← hnums.1], rfl, Or.inr ⟨Ap, Bp, Cp, mp, Up, Vp, Mp, Sp, Bfp, Ep, hx_p6, rfl⟩⟩)
              · skip
                refine wp_bipush G dX9_join_96 (by decide) ?_
                exact wp_ireturn G hr dX9_join_98 (by exact ⟨by rw [ansJ_5 (by omega) (by omega)], rfl, Or.inl rfl⟩)
      · skip
        refine wp_iconst G dX9_join_19 ?_
        exact wp_ireturn G hr dX9_join_20 (by exact ⟨by rw [ansJ_1 (by omega)], rfl, Or.inl rfl⟩)

