theorem pt_put {R : Nat → Int} {k : Nat} {c : Int} (h : ∀ t, t < k → R t = c) : ∀ t, t < k + 1 → fup R k c t = c := by
  intro t ht
  by_cases e : t = k
  · rw [e, fup_self]
  · rw [fup_ne _ _ e]; exact h t (by omega)
theorem b_put {E : Nat → Int} {k : Nat} {c : Int} (h : ∀ j, j < 25 → E j = 0 ∨ E j = 1) (hc : c = 0 ∨ c = 1) : ∀ j, j < 25 → fup E k c j = 0 ∨ fup E k c j = 1 := by
  intro j hj
  by_cases e : j = k
  · rw [e, fup_self]; exact hc
  · rw [fup_ne _ _ e]; exact h j hj
theorem pl_ro {cl t : Nat} {rn : Nat → Nat} {ro : Nat → Int} (hN : HN cl t rn) (h0 : rn 0 = t + 1) (ht : t < 12) (h : ∀ j, 1 ≤ j → j < cl + 1 → ro j = ((rn j : Nat) : Int)) : ∀ j, j < cl + 1 → fup ro 0 ((t + 1 : Nat) : Int) j = ((rn j : Nat) : Int) ∧ rn j < 13 := by
  intro j hj
  have := rn_le hN h0 (j := j) (by omega)
  by_cases e : j = 0
  · rw [e, fup_self, h0]; exact ⟨rfl, by omega⟩
  · rw [fup_ne _ _ e, h j (by omega) hj]; exact ⟨rfl, by omega⟩
theorem pl_re {E : Nat → Int} {w j : Nat} (h : fup E w 1 j = 0) : E j = 0 := by
  by_cases e : j = w
  · rw [e, fup_self] at h; omega
  · rw [fup_ne _ _ e] at h; exact h
theorem pl_s1 {c re sl : Nat → Int} {k j : Nat} (h1 : 0 ≤ sl j ∧ sl j ≤ 4000000000000000000) (h2 : 0 ≤ c j ∧ c j ≤ 2000000000000000000) : r64 (lsS c re sl k j) := by
  unfold lsS
  split <;> omega
theorem m_put {M : Nat → Int} {m : Nat → Nat} {cl x y : Nat} (h : ∀ j, j < cl + 1 → M j = ((m j : Nat) : Int)) (hx : x < cl + 1) (hy : y < cl + 1) : ∀ j, j < cl + 1 → fup M x (M y) j = ((fup m x (m y) j : Nat) : Int) := by
  intro j hj
  by_cases e : j = x
  · rw [e, fup_self, fup_self]; exact h y hy
  · rw [fup_ne _ _ e, fup_ne _ _ e]; exact h j hj

set_option maxRecDepth 100000 in
set_option maxHeartbeats 4000000 in
theorem t_X3_placeRow {nx : Nat} {h : Nat → Option PC} {pa : Int} {mi : Int} {rw_ : Nat} {pt : Nat} {cl : Nat} {u : Nat → Int} {v : Nat → Int} {sl : Nat → Int} {ro : Nat → Int} {be : Nat → Int} {re : Nat → Int} {C : Nat → Nat → Int} {rn : Nat → Nat} {t : Nat} (hJ : isJo h pa mi rw_ pt cl u v sl ro be re) (hrw : rw_ ≤ 12) (hcl : cl ≤ 24) (hre : ∀ j, j < 25 → re j = 0 ∨ re j = 1) (h14 : h 14 = some (oP 3 13 (fun i => some (15 + i)))) (hC : ∀ i, i < 13 → h (15 + i) = some (oL 2 25 (C i))) (hHC : HC C rw_ pt cl) (hP : HP C rw_ cl u v rn) (hNN : HN cl t rn) (hr0 : rn 0 = t + 1) (htr : t < rw_) (hrn : ∀ j, 1 ≤ j → j < cl + 1 → ro j = ((rn j : Nat) : Int)) : Cx 1 (0, 0) yX3_placeRow cX3_placeRow 5 none [zR 11, zI ((t + 1 : Nat) : Int)] nx h (fun rr nx' l' => ∃ (U : Nat → Int) (V : Nat → Int) (S : Nat → Int) (M : Nat → Int) (B : Nat → Int) (E : Nat → Int), (∀ j, j < 25 → E j = 0 ∨ E j = 1) ∧ (∃ m : Nat → Nat, HP C rw_ cl U V m ∧ HN cl (t + 1) m ∧ ∀ j, 1 ≤ j → j < cl + 1 → M j = ((m j : Nat) : Int)) ∧ rr = none ∧ nx' = nx ∧ l' = [(31, oA 0 25 M), (30, oL 2 25 S), (32, oA 0 25 B), (33, oA 1 25 E), (28, oL 2 13 U), (29, oL 2 25 V)]) := by
  refine cx_of pnX3_placeRow (Nat.le_of_ble_eq_true rfl) ?_
  intro K G hr hnm hR
  obtain ⟨h11, h28, h29, h30, h31, h32, h33⟩ := id hJ
  have hro1 : ∀ j, j < cl + 1 → (fup ro 0 ((t + 1 : Nat) : Int)) j = ((rn j : Nat) : Int) ∧ rn j < 13 := pl_ro hNN hr0 (by omega) hrn
  show Wp K 5 (Mx K h (fun rr nx' l' => ∃ (U : Nat → Int) (V : Nat → Int) (S : Nat → Int) (M : Nat → Int) (B : Nat → Int) (E : Nat → Int), (∀ j, j < 25 → E j = 0 ∨ E j = 1) ∧ (∃ m : Nat → Nat, HP C rw_ cl U V m ∧ HN cl (t + 1) m ∧ ∀ j, 1 ≤ j → j < cl + 1 → M j = ((m j : Nat) : Int)) ∧ rr = none ∧ nx' = nx ∧ l' = [(31, oA 0 25 M), (30, oL 2 25 S), (32, oA 0 25 B), (33, oA 1 25 E), (28, oL 2 13 U), (29, oL 2 25 V)]) (0, 0)) (0, 0) 0 [(0, zR 11), (1, zI ((t + 1 : Nat) : Int))] [] (nx, h, [])
  refine wp_aload_n G 0 dX3_placeRow_0 rfl ?_
  refine wp_get G 11 cOk3 fX3_49 dX3_placeRow_1 h11 rfl ?_
  refine wp_iconst G dX3_placeRow_4 ?_
  refine wp_iload_n G 1 dX3_placeRow_5 rfl ?_
  refine wp_iastE (j := 0) (hp2 := (nx, h, [(31, oA 0 25 (fup ro 0 ((t + 1 : Nat) : Int)))])) G dX3_placeRow_6 h31 rfl (by decide) (by decide) rfl ?_
  refine wp_iconst G dX3_placeRow_7 ?_
  refine wp_istore_n (lv' := [(2, zI 0), (0, zR 11), (1, zI ((t + 1 : Nat) : Int))]) G dX3_placeRow_8 (by decide) rfl ?_
  refine wp_own (r := 30) (hp2 := (nx, h, [(31, oA 0 25 (fup ro 0 ((t + 1 : Nat) : Int))), (30, oL 2 25 sl)])) h30 rfl ?_
  refine wp_own (r := 32) (hp2 := (nx, h, [(31, oA 0 25 (fup ro 0 ((t + 1 : Nat) : Int))), (30, oL 2 25 sl), (32, oA 0 25 be)])) h32 rfl ?_
  refine wp_own (r := 33) (hp2 := (nx, h, [(31, oA 0 25 (fup ro 0 ((t + 1 : Nat) : Int))), (30, oL 2 25 sl), (32, oA 0 25 be), (33, oA 1 25 re)])) h33 rfl ?_
  refine wp_lv [1, 2, 0] rfl ?_
  suffices lp9 : ∀ (fu : Nat) (k : Nat) (S : Nat → Int) (B : Nat → Int) (E : Nat → Int) (v2 : Int), cl + 1 - k < fu → (v2 = ((k : Nat) : Int)) → (k ≤ cl + 1) → (∀ j, j < k → S j = 4000000000000000000) → (∀ j, j < k → B j = 0) → (∀ j, j < k → E j = 0) → (∀ j, j < 25 → E j = 0 ∨ E j = 1) → Wp K 5 (Mx K h (fun rr nx' l' => ∃ (U : Nat → Int) (V : Nat → Int) (S : Nat → Int) (M : Nat → Int) (B : Nat → Int) (E : Nat → Int), (∀ j, j < 25 → E j = 0 ∨ E j = 1) ∧ (∃ m : Nat → Nat, HP C rw_ cl U V m ∧ HN cl (t + 1) m ∧ ∀ j, 1 ≤ j → j < cl + 1 → M j = ((m j : Nat) : Int)) ∧ rr = none ∧ nx' = nx ∧ l' = [(31, oA 0 25 M), (30, oL 2 25 S), (32, oA 0 25 B), (33, oA 1 25 E), (28, oL 2 13 U), (29, oL 2 25 V)]) (0, 0)) (0, 0) 9 [(0, zR 11), (1, zI ((t + 1 : Nat) : Int)), (2, zI v2)] [] (nx, h, [(31, oA 0 25 (fup ro 0 ((t + 1 : Nat) : Int))), (30, oL 2 25 S), (32, oA 0 25 B), (33, oA 1 25 E)]) from lp9 _ 0 sl be re 0 (Nat.lt_succ_self _) (by omega) (by omega) (by intro j hj; omega) (by intro j hj; omega) (by intro j hj; omega) (by exact hre)
  intro fu
  induction fu with
  | zero => intro k S B E v2 hm; exact absurd hm (Nat.not_lt_zero _)
  | succ fu ih9 =>
    intro k S B E v2 hm9 e2 hi0 hs hb he hE
    subst e2
    refine wp_iload_n G 2 dX3_placeRow_9 rfl ?_
    refine wp_aload_n G 0 dX3_placeRow_10 rfl ?_
    refine wp_get G 4 cOk3 fX3_24 dX3_placeRow_11 h11 rfl ?_
    refine wp_icmp_gt G dX3_placeRow_14 (by omega) (by omega) (fun kq1 => ?_) (fun kq1 => ?_)
    · skip
      refine wp_iconst G dX3_placeRow_46 ?_
      refine wp_istore_n (lv' := [(2, zI 0), (0, zR 11), (1, zI ((t + 1 : Nat) : Int))]) G dX3_placeRow_47 (by decide) rfl ?_
      refine wp_iconst G dX3_placeRow_48 ?_
      refine wp_istore_n (lv' := [(3, zI 0), (2, zI 0), (0, zR 11), (1, zI ((t + 1 : Nat) : Int))]) G dX3_placeRow_49 (by decide) rfl ?_
      refine wp_own (r := 28) (hp2 := (nx, h, [(31, oA 0 25 (fup ro 0 ((t + 1 : Nat) : Int))), (30, oL 2 25 S), (32, oA 0 25 B), (33, oA 1 25 E), (28, oL 2 13 u)])) h28 rfl ?_
      refine wp_own (r := 29) (hp2 := (nx, h, [(31, oA 0 25 (fup ro 0 ((t + 1 : Nat) : Int))), (30, oL 2 25 S), (32, oA 0 25 B), (33, oA 1 25 E), (28, oL 2 13 u), (29, oL 2 25 v)])) h29 rfl ?_
      refine wp_lv [2, 3, 1, 0] rfl ?_
      suffices lp50 : ∀ (fu : Nat) (w : Nat) (T : Nat) (rk : Nat → Nat) (U : Nat → Int) (V : Nat → Int) (S : Nat → Int) (B : Nat → Int) (E : Nat → Int) (v2 : Int) (v3 : Int), cl + 1 - T < fu → (v2 = ((w : Nat) : Int)) → (v3 = ((T : Nat) : Int)) → (HL C rw_ cl U V rn E S B w T rk) → (∀ j, j < 25 → E j = 0 ∨ E j = 1) → Wp K 5 (Mx K h (fun rr nx' l' => ∃ (U : Nat → Int) (V : Nat → Int) (S : Nat → Int) (M : Nat → Int) (B : Nat → Int) (E : Nat → Int), (∀ j, j < 25 → E j = 0 ∨ E j = 1) ∧ (∃ m : Nat → Nat, HP C rw_ cl U V m ∧ HN cl (t + 1) m ∧ ∀ j, 1 ≤ j → j < cl + 1 → M j = ((m j : Nat) : Int)) ∧ rr = none ∧ nx' = nx ∧ l' = [(31, oA 0 25 M), (30, oL 2 25 S), (32, oA 0 25 B), (33, oA 1 25 E), (28, oL 2 13 U), (29, oL 2 25 V)]) (0, 0)) (0, 0) 50 [(0, zR 11), (1, zI ((t + 1 : Nat) : Int)), (2, zI v2), (3, zI v3)] [] (nx, h, [(31, oA 0 25 (fup ro 0 ((t + 1 : Nat) : Int))), (30, oL 2 25 S), (32, oA 0 25 B), (33, oA 1 25 E), (28, oL 2 13 U), (29, oL 2 25 V)]) from lp50 _ 0 0 (fun _ => 0) u v S B E 0 0 (Nat.lt_succ_self _) (by omega) (by omega) (by have hk1 : k = cl + 1 := (by omega); rw [hk1] at hs hb he; exact hl_0 hP hs he hb) (by exact hE)
      intro fu
      induction fu with
      | zero => intro w T rk U V S B E v2 v3 hm; exact absurd hm (Nat.not_lt_zero _)
      | succ fu ih50 =>
        intro w T rk U V S B E v2 v3 hm50 e2 e3 hL hE
        subst e2
        subst e3
        have hTl := hl_T hL
        have hwl := hL.wl
        have hrw1 := hro1 w (by omega)
        have hlb := hl_b hHC hNN hr0 htr hL
        refine wp_iload_n G 3 dX3_placeRow_50 rfl ?_
        refine wp_aload_n G 0 dX3_placeRow_51 rfl ?_
        refine wp_get G 4 cOk3 fX3_24 dX3_placeRow_52 h11 rfl ?_
        refine wp_icmp_gt G dX3_placeRow_55 (by omega) (by omega) (fun kq2 => ?_) (fun kq2 => ?_)
        · skip
          refine wp_iconst G dX3_placeRow_105 ?_
          refine wp_istore_n (lv' := [(3, zI 0), (0, zR 11), (1, zI ((t + 1 : Nat) : Int)), (2, zI ((w : Nat) : Int))]) G dX3_placeRow_106 (by decide) rfl ?_
          refine wp_lv [1, 2, 3, 0] rfl ?_
          suffices lp107 : ∀ (fu : Nat) (x : Nat) (k2 : Nat) (R : Nat) (m : Nat → Nat) (M : Nat → Int) (v2 : Int) (v3 : Int), cl + 1 - k2 < fu → (v2 = ((x : Nat) : Int)) → (v3 = ((k2 : Nat) : Int)) → (k2 + R ≤ cl) → (HT C cl t U V rn m E B x R rk) → (∀ j, j < cl + 1 → M j = ((m j : Nat) : Int)) → Wp K 5 (Mx K h (fun rr nx' l' => ∃ (U : Nat → Int) (V : Nat → Int) (S : Nat → Int) (M : Nat → Int) (B : Nat → Int) (E : Nat → Int), (∀ j, j < 25 → E j = 0 ∨ E j = 1) ∧ (∃ m : Nat → Nat, HP C rw_ cl U V m ∧ HN cl (t + 1) m ∧ ∀ j, 1 ≤ j → j < cl + 1 → M j = ((m j : Nat) : Int)) ∧ rr = none ∧ nx' = nx ∧ l' = [(31, oA 0 25 M), (30, oL 2 25 S), (32, oA 0 25 B), (33, oA 1 25 E), (28, oL 2 13 U), (29, oL 2 25 V)]) (0, 0)) (0, 0) 107 [(0, zR 11), (1, zI ((t + 1 : Nat) : Int)), (2, zI v2), (3, zI v3)] [] (nx, h, [(31, oA 0 25 M), (30, oL 2 25 S), (32, oA 0 25 B), (33, oA 1 25 E), (28, oL 2 13 U), (29, oL 2 25 V)]) from lp107 _ w 0 T rn (fup ro 0 ((t + 1 : Nat) : Int)) ((w : Nat) : Int) 0 (Nat.lt_succ_self _) (by omega) (by omega) (by omega) (by exact ht_0 hNN hr0 hL (by omega)) (by exact fun j hj => (hro1 j hj).1)
          intro fu
          induction fu with
          | zero => intro x k2 R m M v2 v3 hm; exact absurd hm (Nat.not_lt_zero _)
          | succ fu ih107 =>
            intro x k2 R m M v2 v3 hm107 e2 e3 hkR hT hM
            subst e2
            subst e3
            have hxl := hT.wl
            have hBx := hL.eb x hxl
            refine wp_iload_n G 3 dX3_placeRow_107 rfl ?_
            refine wp_aload_n G 0 dX3_placeRow_108 rfl ?_
            refine wp_get G 4 cOk3 fX3_24 dX3_placeRow_109 h11 rfl ?_
            refine wp_icmp_gt G dX3_placeRow_112 (by omega) (by omega) (fun kq3 => ?_) (fun kq3 => ?_)
            · skip
              exact wp_vreturn G hr dX3_placeRow_149 ⟨U, V, S, M, B, E, by exact hE, by exact ⟨m, (ht_end hL (show HT C cl t U V rn m E B 0 R rk from by have hx0 : x = 0 := (by omega); rw [← hx0]; exact hT)).1, (ht_end hL (show HT C cl t U V rn m E B 0 R rk from by have hx0 : x = 0 := (by omega); rw [← hx0]; exact hT)).2, fun j _ hj2 => hM j hj2⟩, rfl, rfl, by rfl⟩
            · skip
              refine wp_iload_n G 2 dX3_placeRow_115 rfl ?_
              refine wp_if_eq G dX3_placeRow_116 (by omega) (fun kq4 => ?_) (fun kq4 => ?_)
              · skip
                exact wp_vreturn G hr dX3_placeRow_149 ⟨U, V, S, M, B, E, by exact hE, by exact ⟨m, (ht_end hL (show HT C cl t U V rn m E B 0 R rk from by have hx0 : x = 0 := (by omega); rw [← hx0]; exact hT)).1, (ht_end hL (show HT C cl t U V rn m E B 0 R rk from by have hx0 : x = 0 := (by omega); rw [← hx0]; exact hT)).2, fun j _ hj2 => hM j hj2⟩, rfl, rfl, by rfl⟩
              · skip
                have hst := ht_step hL hT (show x ≠ 0 by omega) rfl
                have hyl : (B x).toNat < cl + 1 := by omega
                refine wp_aload_n G 0 dX3_placeRow_119 rfl ?_
                refine wp_get G 11 cOk3 fX3_49 dX3_placeRow_120 h11 rfl ?_
                refine wp_iload_n G 2 dX3_placeRow_123 rfl ?_
                refine wp_aload_n G 0 dX3_placeRow_124 rfl ?_
                refine wp_get G 11 cOk3 fX3_49 dX3_placeRow_125 h11 rfl ?_
                refine wp_aload_n G 0 dX3_placeRow_128 rfl ?_
                refine wp_get G 12 cOk3 fX3_52 dX3_placeRow_129 h11 rfl ?_
                refine wp_iload_n G 2 dX3_placeRow_132 rfl ?_
                refine wp_iald (j := x) G dX3_placeRow_133 rfl rfl (by omega) (by decide) ?_
                refine wp_iald (j := ((B x)).toNat) G dX3_placeRow_134 rfl (by omega) (by omega) (by decide) ?_
                refine wp_iastE (j := x) (hp2 := (nx, h, [(31, oA 0 25 (fup M x (M (((B x)).toNat)))), (30, oL 2 25 S), (32, oA 0 25 B), (33, oA 1 25 E), (28, oL 2 13 U), (29, oL 2 25 V)])) G dX3_placeRow_135 rfl rfl (by omega) (by decide) rfl ?_
                refine wp_aload_n G 0 dX3_placeRow_136 rfl ?_
                refine wp_get G 12 cOk3 fX3_52 dX3_placeRow_137 h11 rfl ?_
                refine wp_iload_n G 2 dX3_placeRow_140 rfl ?_
                refine wp_iald (j := x) G dX3_placeRow_141 rfl rfl (by omega) (by decide) ?_
                refine wp_istore_n (lv' := [(2, zI (B x)), (0, zR 11), (1, zI ((t + 1 : Nat) : Int)), (3, zI ((k2 : Nat) : Int))]) G dX3_placeRow_142 (by decide) rfl ?_
                refine wp_iinc (lv' := [(3, zI (((k2 : Nat) : Int) + 1)), (2, zI (B x)), (0, zR 11), (1, zI ((t + 1 : Nat) : Int))]) G 3 dX3_placeRow_143 rfl (by decide) rfl ?_
                refine wp_goto G dX3_placeRow_146 ?_
                refine wp_lv [2, 3, 1, 0] rfl ?_
                exact ih107 ((B x).toNat) (k2 + 1) (rk (B x).toNat) (fup m x (m (B x).toNat)) (fup M x (M (((B x)).toNat))) (B x) (((k2 : Nat) : Int) + 1) (by omega) (by omega) (by omega) (by omega) (by exact hst.1) (by exact m_put hM (by omega) hyl)
        · skip
          refine wp_aload_n G 0 dX3_placeRow_58 rfl ?_
          refine wp_get G 11 cOk3 fX3_49 dX3_placeRow_59 h11 rfl ?_
          refine wp_iload_n G 2 dX3_placeRow_62 rfl ?_
          refine wp_iald (j := w) G dX3_placeRow_63 rfl rfl (by omega) (by decide) ?_
          refine wp_if_eq G dX3_placeRow_64 (by omega) (fun kq5 => ?_) (fun kq5 => ?_)
          · skip
            refine wp_iconst G dX3_placeRow_105 ?_
            refine wp_istore_n (lv' := [(3, zI 0), (0, zR 11), (1, zI ((t + 1 : Nat) : Int)), (2, zI ((w : Nat) : Int))]) G dX3_placeRow_106 (by decide) rfl ?_
            refine wp_lv [1, 2, 3, 0] rfl ?_
            suffices lp107 : ∀ (fu : Nat) (x : Nat) (k2 : Nat) (R : Nat) (m : Nat → Nat) (M : Nat → Int) (v2 : Int) (v3 : Int), cl + 1 - k2 < fu → (v2 = ((x : Nat) : Int)) → (v3 = ((k2 : Nat) : Int)) → (k2 + R ≤ cl) → (HT C cl t U V rn m E B x R rk) → (∀ j, j < cl + 1 → M j = ((m j : Nat) : Int)) → Wp K 5 (Mx K h (fun rr nx' l' => ∃ (U : Nat → Int) (V : Nat → Int) (S : Nat → Int) (M : Nat → Int) (B : Nat → Int) (E : Nat → Int), (∀ j, j < 25 → E j = 0 ∨ E j = 1) ∧ (∃ m : Nat → Nat, HP C rw_ cl U V m ∧ HN cl (t + 1) m ∧ ∀ j, 1 ≤ j → j < cl + 1 → M j = ((m j : Nat) : Int)) ∧ rr = none ∧ nx' = nx ∧ l' = [(31, oA 0 25 M), (30, oL 2 25 S), (32, oA 0 25 B), (33, oA 1 25 E), (28, oL 2 13 U), (29, oL 2 25 V)]) (0, 0)) (0, 0) 107 [(0, zR 11), (1, zI ((t + 1 : Nat) : Int)), (2, zI v2), (3, zI v3)] [] (nx, h, [(31, oA 0 25 M), (30, oL 2 25 S), (32, oA 0 25 B), (33, oA 1 25 E), (28, oL 2 13 U), (29, oL 2 25 V)]) from lp107 _ w 0 T rn (fup ro 0 ((t + 1 : Nat) : Int)) ((w : Nat) : Int) 0 (Nat.lt_succ_self _) (by omega) (by omega) (by omega) (by exact ht_0 hNN hr0 hL (by omega)) (by exact fun j hj => (hro1 j hj).1)
            intro fu
            induction fu with
            | zero => intro x k2 R m M v2 v3 hm; exact absurd hm (Nat.not_lt_zero _)
            | succ fu ih107 =>
              intro x k2 R m M v2 v3 hm107 e2 e3 hkR hT hM
              subst e2
              subst e3
              have hxl := hT.wl
              have hBx := hL.eb x hxl
              refine wp_iload_n G 3 dX3_placeRow_107 rfl ?_
              refine wp_aload_n G 0 dX3_placeRow_108 rfl ?_
              refine wp_get G 4 cOk3 fX3_24 dX3_placeRow_109 h11 rfl ?_
              refine wp_icmp_gt G dX3_placeRow_112 (by omega) (by omega) (fun kq6 => ?_) (fun kq6 => ?_)
              · skip
                exact wp_vreturn G hr dX3_placeRow_149 ⟨U, V, S, M, B, E, by exact hE, by exact ⟨m, (ht_end hL (show HT C cl t U V rn m E B 0 R rk from by have hx0 : x = 0 := (by omega); rw [← hx0]; exact hT)).1, (ht_end hL (show HT C cl t U V rn m E B 0 R rk from by have hx0 : x = 0 := (by omega); rw [← hx0]; exact hT)).2, fun j _ hj2 => hM j hj2⟩, rfl, rfl, by rfl⟩
              · skip
                refine wp_iload_n G 2 dX3_placeRow_115 rfl ?_
                refine wp_if_eq G dX3_placeRow_116 (by omega) (fun kq7 => ?_) (fun kq7 => ?_)
                · skip
                  exact wp_vreturn G hr dX3_placeRow_149 ⟨U, V, S, M, B, E, by exact hE, by exact ⟨m, (ht_end hL (show HT C cl t U V rn m E B 0 R rk from by have hx0 : x = 0 := (by omega); rw [← hx0]; exact hT)).1, (ht_end hL (show HT C cl t U V rn m E B 0 R rk from by have hx0 : x = 0 := (by omega); rw [← hx0]; exact hT)).2, fun j _ hj2 => hM j hj2⟩, rfl, rfl, by rfl⟩
                · skip
                  have hst := ht_step hL hT (show x ≠ 0 by omega) rfl
                  have hyl : (B x).toNat < cl + 1 := by omega
                  refine wp_aload_n G 0 dX3_placeRow_119 rfl ?_
                  refine wp_get G 11 cOk3 fX3_49 dX3_placeRow_120 h11 rfl ?_
                  refine wp_iload_n G 2 dX3_placeRow_123 rfl ?_
                  refine wp_aload_n G 0 dX3_placeRow_124 rfl ?_
                  refine wp_get G 11 cOk3 fX3_49 dX3_placeRow_125 h11 rfl ?_
                  refine wp_aload_n G 0 dX3_placeRow_128 rfl ?_
                  refine wp_get G 12 cOk3 fX3_52 dX3_placeRow_129 h11 rfl ?_
                  refine wp_iload_n G 2 dX3_placeRow_132 rfl ?_
                  refine wp_iald (j := x) G dX3_placeRow_133 rfl rfl (by omega) (by decide) ?_
                  refine wp_iald (j := ((B x)).toNat) G dX3_placeRow_134 rfl (by omega) (by omega) (by decide) ?_
                  refine wp_iastE (j := x) (hp2 := (nx, h, [(31, oA 0 25 (fup M x (M (((B x)).toNat)))), (30, oL 2 25 S), (32, oA 0 25 B), (33, oA 1 25 E), (28, oL 2 13 U), (29, oL 2 25 V)])) G dX3_placeRow_135 rfl rfl (by omega) (by decide) rfl ?_
                  refine wp_aload_n G 0 dX3_placeRow_136 rfl ?_
                  refine wp_get G 12 cOk3 fX3_52 dX3_placeRow_137 h11 rfl ?_
                  refine wp_iload_n G 2 dX3_placeRow_140 rfl ?_
                  refine wp_iald (j := x) G dX3_placeRow_141 rfl rfl (by omega) (by decide) ?_
                  refine wp_istore_n (lv' := [(2, zI (B x)), (0, zR 11), (1, zI ((t + 1 : Nat) : Int)), (3, zI ((k2 : Nat) : Int))]) G dX3_placeRow_142 (by decide) rfl ?_
                  refine wp_iinc (lv' := [(3, zI (((k2 : Nat) : Int) + 1)), (2, zI (B x)), (0, zR 11), (1, zI ((t + 1 : Nat) : Int))]) G 3 dX3_placeRow_143 rfl (by decide) rfl ?_
                  refine wp_goto G dX3_placeRow_146 ?_
                  refine wp_lv [2, 3, 1, 0] rfl ?_
                  exact ih107 ((B x).toNat) (k2 + 1) (rk (B x).toNat) (fup m x (m (B x).toNat)) (fup M x (M (((B x)).toNat))) (B x) (((k2 : Nat) : Int) + 1) (by omega) (by omega) (by omega) (by omega) (by exact hst.1) (by exact m_put hM (by omega) hyl)
          · skip
            have hw0 : rn w ≠ 0 := fun z => absurd (show (fup ro 0 ((t + 1 : Nat) : Int)) w = 0 by rw [hrw1.1, z]; rfl) (by assumption)
            have hwr3 := hro1 w (by omega)
            refine wp_aload_n G 0 dX3_placeRow_67 rfl ?_
            refine wp_get G 13 cOk3 fX3_55 dX3_placeRow_68 h11 rfl ?_
            refine wp_iload_n G 2 dX3_placeRow_71 rfl ?_
            refine wp_iconst G dX3_placeRow_72 ?_
            refine wp_zastE (j := w) (hp2 := (nx, h, [(31, oA 0 25 (fup ro 0 ((t + 1 : Nat) : Int))), (30, oL 2 25 S), (32, oA 0 25 B), (33, oA 1 25 (fup E w 1)), (28, oL 2 13 U), (29, oL 2 25 V)])) G (by omega) dX3_placeRow_73 rfl rfl (by omega) (by decide) rfl ?_
            refine wp_aload_n G 0 dX3_placeRow_74 rfl ?_
            refine wp_iload_n G 2 dX3_placeRow_75 rfl ?_
            refine wp_cVN (b := 11) (ci := 3) (as := [zI ((w : Nat) : Int)]) (rest := []) (hp2 := (nx, h, [(31, oA 0 25 (fup ro 0 ((t + 1 : Nat) : Int))), (30, oL 2 25 (lsS (fun j => C (rn w) j - U (rn w) - V j) (fup E w 1) S cl)), (32, oA 0 25 (lsB (fun j => C (rn w) j - U (rn w) - V j) (fup E w 1) S B ((w : Nat) : Int) cl)), (33, oA 1 25 (fup E w 1)), (28, oL 2 13 U), (29, oL 2 25 V)])) G mX3_loosen lX3_137 iX3_loosen eX3_loosen ⟨_, rfl, rfl⟩ dX3_placeRow_76 h11 rfl rfl (Nat.le_of_ble_eq_true rfl) (rmx_ok hR (by decide) (by decide) (by decide) (by decide)) (t_X3_loosen (nx := nx) (at_ := w) (C := C) (i := (rn w)) (u := U) (v := V) (sl := S) (be := B) (re := (fup E w 1)) (ro := (fup ro 0 ((t + 1 : Nat) : Int))) ⟨h11, rfl, rfl, rfl, rfl, rfl, rfl⟩ hrw hcl (b_put hE (Or.inr rfl)) h14 (fun i hi => lk_lt (by omega) rfl (hC i hi)) (by omega) hrw1.1 hrw1.2 (fun j h1 h2 h3 => by have hz := hlb.1 j h1 h2 (pl_re h3); omega) (fun j h1 h2 => by have hz := hlb.2 w j hwl hw0 h1 h2; omega)) rfl ?_
            have hnl := nrF_le (fup E w 1) (lsS (fun j => C (rn w) j - U (rn w) - V j) (fup E w 1) S cl) cl
            refine wp_aload_n G 0 dX3_placeRow_79 rfl ?_
            refine wp_cVE (b := 11) (ci := 3) (as := []) (rest := []) (hp2 := (nx, h, [(31, oA 0 25 (fup ro 0 ((t + 1 : Nat) : Int))), (30, oL 2 25 (lsS (fun j => C (rn w) j - U (rn w) - V j) (fup E w 1) S cl)), (32, oA 0 25 (lsB (fun j => C (rn w) j - U (rn w) - V j) (fup E w 1) S B ((w : Nat) : Int) cl)), (33, oA 1 25 (fup E w 1)), (28, oL 2 13 U), (29, oL 2 25 V)])) G mX3_nearest lX3_140 iX3_nearest eX3_nearest ⟨_, rfl, rfl⟩ dX3_placeRow_80 h11 rfl rfl (Nat.le_of_ble_eq_true rfl) (rmx_ok hR (by decide) (by decide) (by decide) (by decide)) (t_X3_nearest (nx := nx) (u := U) (v := V) (sl := (lsS (fun j => C (rn w) j - U (rn w) - V j) (fup E w 1) S cl)) (be := (lsB (fun j => C (rn w) j - U (rn w) - V j) (fup E w 1) S B ((w : Nat) : Int) cl)) (re := (fup E w 1)) (ro := (fup ro 0 ((t + 1 : Nat) : Int))) ⟨h11, rfl, rfl, rfl, rfl, rfl, rfl⟩ hrw hcl (b_put hE (Or.inr rfl)) (fun j h1 h2 h3 => pl_s1 (hlb.1 j h1 h2 (pl_re h3)) (hlb.2 w j hwl hw0 h1 h2))) rfl ?_
            refine wp_istore (lv' := [(4, zI ((nrF (fup E w 1) (lsS (fun j => C (rn w) j - U (rn w) - V j) (fup E w 1) S cl) cl : Nat) : Int)), (0, zR 11), (1, zI ((t + 1 : Nat) : Int)), (2, zI ((w : Nat) : Int)), (3, zI ((T : Nat) : Int))]) G dX3_placeRow_83 (by decide) rfl ?_
            refine wp_aload_n G 1 dX3_placeRow_85 rfl ?_
            refine wp_aload_n G 1 dX3_placeRow_86 rfl ?_
            refine wp_get G 10 cOk3 fX3_46 dX3_placeRow_87 h11 rfl ?_
            refine wp_iload G 0 dX3_placeRow_90 rfl ?_
            refine wp_lald (j := nrF (fup E w 1) (lsS (fun j => C (rn w) j - U (rn w) - V j) (fup E w 1) S cl) cl) G dX3_placeRow_92 rfl rfl (by omega) (by decide) ?_
            refine wp_cVN (b := 11) (ci := 3) (as := [zJ ((lsS (fun j => C (rn w) j - U (rn w) - V j) (fup E w 1) S cl) (nrF (fup E w 1) (lsS (fun j => C (rn w) j - U (rn w) - V j) (fup E w 1) S cl) cl))]) (rest := []) (hp2 := (nx, h, [(31, oA 0 25 (fup ro 0 ((t + 1 : Nat) : Int))), (30, oL 2 25 (rpS (fup E w 1) (lsS (fun j => C (rn w) j - U (rn w) - V j) (fup E w 1) S cl) ((lsS (fun j => C (rn w) j - U (rn w) - V j) (fup E w 1) S cl) (nrF (fup E w 1) (lsS (fun j => C (rn w) j - U (rn w) - V j) (fup E w 1) S cl) cl)) (cl + 1))), (32, oA 0 25 (lsB (fun j => C (rn w) j - U (rn w) - V j) (fup E w 1) S B ((w : Nat) : Int) cl)), (33, oA 1 25 (fup E w 1)), (28, oL 2 13 (rpU (fup E w 1) rn U ((lsS (fun j => C (rn w) j - U (rn w) - V j) (fup E w 1) S cl) (nrF (fup E w 1) (lsS (fun j => C (rn w) j - U (rn w) - V j) (fup E w 1) S cl) cl)) (cl + 1))), (29, oL 2 25 (rpV (fup E w 1) V ((lsS (fun j => C (rn w) j - U (rn w) - V j) (fup E w 1) S cl) (nrF (fup E w 1) (lsS (fun j => C (rn w) j - U (rn w) - V j) (fup E w 1) S cl) cl)) (cl + 1)))])) G mX3_reprice lX3_144 iX3_reprice eX3_reprice ⟨_, rfl, rfl⟩ dX3_placeRow_93 h11 rfl rfl (Nat.le_of_ble_eq_true rfl) (rmx_ok hR (by decide) (by decide) (by decide) (by decide)) (t_X3_reprice (nx := nx) (by_ := ((lsS (fun j => C (rn w) j - U (rn w) - V j) (fup E w 1) S cl) (nrF (fup E w 1) (lsS (fun j => C (rn w) j - U (rn w) - V j) (fup E w 1) S cl) cl))) (u := U) (v := V) (sl := (lsS (fun j => C (rn w) j - U (rn w) - V j) (fup E w 1) S cl)) (be := (lsB (fun j => C (rn w) j - U (rn w) - V j) (fup E w 1) S B ((w : Nat) : Int) cl)) (re := (fup E w 1)) (ro := (fup ro 0 ((t + 1 : Nat) : Int))) (rn := rn) ⟨h11, rfl, rfl, rfl, rfl, rfl, rfl⟩ hrw hcl (b_put hE (Or.inr rfl)) hro1) rfl ?_
            refine wp_iload G 0 dX3_placeRow_96 rfl ?_
            refine wp_istore_n (lv' := [(2, zI ((nrF (fup E w 1) (lsS (fun j => C (rn w) j - U (rn w) - V j) (fup E w 1) S cl) cl : Nat) : Int)), (4, zI ((nrF (fup E w 1) (lsS (fun j => C (rn w) j - U (rn w) - V j) (fup E w 1) S cl) cl : Nat) : Int)), (0, zR 11), (1, zI ((t + 1 : Nat) : Int)), (3, zI ((T : Nat) : Int))]) G dX3_placeRow_98 (by decide) rfl ?_
            refine wp_iinc (lv' := [(3, zI (((T : Nat) : Int) + 1)), (2, zI ((nrF (fup E w 1) (lsS (fun j => C (rn w) j - U (rn w) - V j) (fup E w 1) S cl) cl : Nat) : Int)), (4, zI ((nrF (fup E w 1) (lsS (fun j => C (rn w) j - U (rn w) - V j) (fup E w 1) S cl) cl : Nat) : Int)), (0, zR 11), (1, zI ((t + 1 : Nat) : Int))]) G 4 dX3_placeRow_99 rfl (by decide) rfl ?_
            refine wp_goto G dX3_placeRow_102 ?_
            refine wp_lv [3, 4, 1, 0] rfl ?_
            exact ih50 (nrF (fup E w 1) (lsS (fun j => C (rn w) j - U (rn w) - V j) (fup E w 1) S cl) cl) (T + 1) (fup rk w T) (rpU (fup E w 1) rn U ((lsS (fun j => C (rn w) j - U (rn w) - V j) (fup E w 1) S cl) (nrF (fup E w 1) (lsS (fun j => C (rn w) j - U (rn w) - V j) (fup E w 1) S cl) cl)) (cl + 1)) (rpV (fup E w 1) V ((lsS (fun j => C (rn w) j - U (rn w) - V j) (fup E w 1) S cl) (nrF (fup E w 1) (lsS (fun j => C (rn w) j - U (rn w) - V j) (fup E w 1) S cl) cl)) (cl + 1)) (rpS (fup E w 1) (lsS (fun j => C (rn w) j - U (rn w) - V j) (fup E w 1) S cl) ((lsS (fun j => C (rn w) j - U (rn w) - V j) (fup E w 1) S cl) (nrF (fup E w 1) (lsS (fun j => C (rn w) j - U (rn w) - V j) (fup E w 1) S cl) cl)) (cl + 1)) (lsB (fun j => C (rn w) j - U (rn w) - V j) (fup E w 1) S B ((w : Nat) : Int) cl) (fup E w 1) ((nrF (fup E w 1) (lsS (fun j => C (rn w) j - U (rn w) - V j) (fup E w 1) S cl) cl : Nat) : Int) (((T : Nat) : Int) + 1) (by omega) (by omega) (by omega) (by exact hl_step hHC hNN hr0 htr hL hw0 rfl rfl rfl rfl) (by exact b_put hE (Or.inr rfl))
    · skip
      refine wp_aload_n G 0 dX3_placeRow_17 rfl ?_
      refine wp_get G 10 cOk3 fX3_46 dX3_placeRow_18 h11 rfl ?_
      refine wp_iload_n G 2 dX3_placeRow_21 rfl ?_
      refine wp_ldc2 (z := 4000000000000000000) G kX3_135 dX3_placeRow_22 ?_
      refine wp_lastE (j := k) (hp2 := (nx, h, [(31, oA 0 25 (fup ro 0 ((t + 1 : Nat) : Int))), (30, oL 2 25 (fup S k 4000000000000000000)), (32, oA 0 25 B), (33, oA 1 25 E)])) G dX3_placeRow_25 rfl rfl (by omega) (by decide) rfl ?_
      refine wp_aload_n G 0 dX3_placeRow_26 rfl ?_
      refine wp_get G 13 cOk3 fX3_55 dX3_placeRow_27 h11 rfl ?_
      refine wp_iload_n G 2 dX3_placeRow_30 rfl ?_
      refine wp_iconst G dX3_placeRow_31 ?_
      refine wp_zastE (j := k) (hp2 := (nx, h, [(31, oA 0 25 (fup ro 0 ((t + 1 : Nat) : Int))), (30, oL 2 25 (fup S k 4000000000000000000)), (32, oA 0 25 B), (33, oA 1 25 (fup E k 0))])) G (by omega) dX3_placeRow_32 rfl rfl (by omega) (by decide) rfl ?_
      refine wp_aload_n G 0 dX3_placeRow_33 rfl ?_
      refine wp_get G 12 cOk3 fX3_52 dX3_placeRow_34 h11 rfl ?_
      refine wp_iload_n G 2 dX3_placeRow_37 rfl ?_
      refine wp_iconst G dX3_placeRow_38 ?_
      refine wp_iastE (j := k) (hp2 := (nx, h, [(31, oA 0 25 (fup ro 0 ((t + 1 : Nat) : Int))), (30, oL 2 25 (fup S k 4000000000000000000)), (32, oA 0 25 (fup B k 0)), (33, oA 1 25 (fup E k 0))])) G dX3_placeRow_39 rfl rfl (by omega) (by decide) rfl ?_
      refine wp_iinc (lv' := [(2, zI (((k : Nat) : Int) + 1)), (0, zR 11), (1, zI ((t + 1 : Nat) : Int))]) G 2 dX3_placeRow_40 rfl (by decide) rfl ?_
      refine wp_goto G dX3_placeRow_43 ?_
      refine wp_lv [1, 2, 0] rfl ?_
      exact ih9 (k + 1) (fup S k 4000000000000000000) (fup B k 0) (fup E k 0) (((k : Nat) : Int) + 1) (by omega) (by omega) (by omega) (by exact pt_put hs) (by exact t0_put hb) (by exact t0_put he) (by exact b_put hE (Or.inl rfl))

