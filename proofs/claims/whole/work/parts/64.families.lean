theorem fsP_le {pr fa sp : Nat → Int} {q : Nat → Nat → Int} {o : Nat → Nat} {b calm : Int} : ∀ f p, fsP pr fa sp q o b calm f p ≤ p
  | 0, p => Nat.le_refl p
  | f + 1, p => by
    rw [fsP]
    cases hl : lkp pr fa sp q o b calm p p with
    | none => exact Nat.le_refl p
    | some r =>
      have h1 := (lkp_some hl).1
      have h2 := fsP_le (pr := pr) (fa := fa) (sp := sp) (q := q) (o := o) (b := b) (calm := calm) f r
      show fsP pr fa sp q o b calm f r ≤ p
      omega
theorem dpP_le {pr fa sp : Nat → Int} {q : Nat → Nat → Int} {o : Nat → Nat} {b calm : Int} : ∀ f p, dpP pr fa sp q o b calm f p ≤ p
  | 0, p => Nat.zero_le p
  | f + 1, p => by
    rw [dpP]
    cases hl : lkp pr fa sp q o b calm p p with
    | none => exact Nat.zero_le p
    | some r =>
      have h1 := (lkp_some hl).1
      have h2 := dpP_le (pr := pr) (fa := fa) (sp := sp) (q := q) (o := o) (b := b) (calm := calm) f r
      show dpP pr fa sp q o b calm f r + 1 ≤ p
      omega
noncomputable def foP (pr fa sp : Nat → Int) (q : Nat → Nat → Int) (o : Nat → Nat) (b calm : Int) (p : Nat) : Int := ifZ (cnd q (-1) b (o p)) ((o (fsP pr fa sp q o b calm p p) : Nat) : Int) (-6)
noncomputable def deP (pr fa sp : Nat → Int) (q : Nat → Nat → Int) (o : Nat → Nat) (b calm : Int) (p : Nat) : Int := ifZ (cnd q (-1) b (o p)) ((dpP pr fa sp q o b calm p p : Nat) : Int) 0
theorem tr_at {pr fa sp : Nat → Int} {q : Nat → Nat → Int} {o : Nat → Nat} {b calm : Int} {n : Nat} {fo de : Nat → Int} (hO : okQ n q o) : ∀ k, k ≤ n → ∀ p, p < k → (trF pr fa sp q o b calm fo de k).1 (o p) = foP pr fa sp q o b calm p ∧ (trF pr fa sp q o b calm fo de k).2 (o p) = deP pr fa sp q o b calm p
  | 0, _, p, hp => absurd hp (Nat.not_lt_zero _)
  | k + 1, hk, p, hp => by
    have ih := tr_at (fo := fo) (de := de) (pr := pr) (fa := fa) (sp := sp) (b := b) (calm := calm) hO k (by omega)
    by_cases e : p = k
    · subst e
      by_cases c : cnd q (-1) b (o p)
      · rw [trF_y c]
        unfold foP deP
        rw [ifZ_y c, ifZ_y c]
        simp only [fup_self]
        rcases lik_c (pr := pr) (fa := fa) (sp := sp) (q := q) (o := o) (b := b) (calm := calm) p with ⟨h1, h2⟩ | ⟨r, h1, h2, h3, h4⟩
        · rw [if_pos h1, if_pos h1, (fs_top h2).1, (fs_top h2).2]
          exact ⟨rfl, rfl⟩
        · have hne : o r ≠ o p := ahd_ne (hO.2.2.2.1 r p h1 (by omega))
          rw [if_neg (by omega), if_neg (by omega), h3, Int.toNat_natCast, fup_ne _ _ hne, fup_ne _ _ hne, (ih r h1).1, (ih r h1).2, (fs_up h4).1, (fs_up h4).2]
          unfold foP deP
          rw [ifZ_y h2, ifZ_y h2]
          exact ⟨rfl, rfl⟩
      · rw [trF_n c]
        unfold foP deP
        rw [ifZ_n c, ifZ_n c]
        exact ⟨fup_self _ _ _, fup_self _ _ _⟩
    · have hne : o p ≠ o k := ahd_ne (hO.2.2.2.1 p k (by omega) (by omega))
      by_cases c : cnd q (-1) b (o k)
      · rw [trF_y c]
        simp only [fup_ne _ _ hne]
        exact ih p (by omega)
      · rw [trF_n c]
        simp only [fup_ne _ _ hne]
        exact ih p (by omega)
noncomputable def foN (pr fa sp : Nat → Int) (q : Nat → Nat → Int) (o : Nat → Nat) (b calm : Int) (n j : Nat) : Int := foP pr fa sp q o b calm (plc n o j).toNat
noncomputable def deN (pr fa sp : Nat → Int) (q : Nat → Nat → Int) (o : Nat → Nat) (b calm : Int) (n j : Nat) : Int := deP pr fa sp q o b calm (plc n o j).toNat
theorem foN_at {pr fa sp : Nat → Int} {q : Nat → Nat → Int} {o : Nat → Nat} {b calm : Int} {n p : Nat} (hO : okQ n q o) (hp : p < n) : foN pr fa sp q o b calm n (o p) = foP pr fa sp q o b calm p ∧ deN pr fa sp q o b calm n (o p) = deP pr fa sp q o b calm p := by
  unfold foN deN
  rw [plc_at hO hp, Int.toNat_natCast]
  exact ⟨rfl, rfl⟩
theorem foP_b {pr fa sp : Nat → Int} {q : Nat → Nat → Int} {o : Nat → Nat} {b calm : Int} {n p : Nat} (hO : okQ n q o) (hp : p < n) : (-6 ≤ foP pr fa sp q o b calm p ∧ foP pr fa sp q o b calm p ≤ 40) ∧ 0 ≤ deP pr fa sp q o b calm p ∧ deP pr fa sp q o b calm p ≤ 40 := by
  have hn := hO.1
  have h1 := fsP_le (pr := pr) (fa := fa) (sp := sp) (q := q) (o := o) (b := b) (calm := calm) p p
  have h2 := dpP_le (pr := pr) (fa := fa) (sp := sp) (q := q) (o := o) (b := b) (calm := calm) p p
  have h3 := hO.o (fsP pr fa sp q o b calm p p) (by omega)
  unfold foP deP
  by_cases c : cnd q (-1) b (o p)
  · rw [ifZ_y c, ifZ_y c]; omega
  · rw [ifZ_n c, ifZ_n c]; omega
theorem tr_n {pr fa sp : Nat → Int} {q : Nat → Nat → Int} {o : Nat → Nat} {b calm : Int} {n : Nat} {fo de : Nat → Int} (hO : okQ n q o) (j : Nat) (hj : j < n) : (trF pr fa sp q o b calm fo de n).1 j = foN pr fa sp q o b calm n j ∧ (trF pr fa sp q o b calm fo de n).2 j = deN pr fa sp q o b calm n j := by
  obtain ⟨p, hp, rfl⟩ := hO.2.2.2.2 j hj
  have h1 := tr_at (fo := fo) (de := de) (pr := pr) (fa := fa) (sp := sp) (b := b) (calm := calm) hO n (Nat.le_refl n) p hp
  have h2 := foN_at (pr := pr) (fa := fa) (sp := sp) (b := b) (calm := calm) hO hp
  rw [h1.1, h1.2, h2.1, h2.2]
  exact ⟨rfl, rfl⟩
theorem foN_b {pr fa sp : Nat → Int} {q : Nat → Nat → Int} {o : Nat → Nat} {b calm : Int} {n : Nat} (hO : okQ n q o) (j : Nat) (hj : j < n) : (-6 ≤ foN pr fa sp q o b calm n j ∧ foN pr fa sp q o b calm n j ≤ 40) ∧ 0 ≤ deN pr fa sp q o b calm n j ∧ deN pr fa sp q o b calm n j ≤ 40 := by
  obtain ⟨p, hp, rfl⟩ := hO.2.2.2.2 j hj
  have h2 := foN_at (pr := pr) (fa := fa) (sp := sp) (b := b) (calm := calm) hO hp
  rw [h2.1, h2.2]
  exact foP_b hO hp
theorem tr_r {pr fa sp : Nat → Int} {q : Nat → Nat → Int} {o : Nat → Nat} {b calm : Int} {n : Nat} {fo de : Nat → Int} (hO : okQ n q o) : (∀ j, j < n → r32 ((trF pr fa sp q o b calm fo de n).1 j)) ∧ ∀ j, j < n → 0 ≤ (trF pr fa sp q o b calm fo de n).2 j ∧ (trF pr fa sp q o b calm fo de n).2 j ≤ 40 := by
  constructor
  · intro j hj
    have h1 := tr_n (fo := fo) (de := de) (pr := pr) (fa := fa) (sp := sp) (b := b) (calm := calm) hO j hj
    have h2 := foN_b (pr := pr) (fa := fa) (sp := sp) (b := b) (calm := calm) hO j hj
    rw [h1.1]; omega
  · intro j hj
    have h1 := tr_n (fo := fo) (de := de) (pr := pr) (fa := fa) (sp := sp) (b := b) (calm := calm) hO j hj
    have h2 := foN_b (pr := pr) (fa := fa) (sp := sp) (b := b) (calm := calm) hO j hj
    rw [h1.2]; omega
theorem dpF_congr {F D F' D' : Nat → Int} {f : Int} : ∀ k, (∀ j, j < k → F j = F' j ∧ D j = D' j) → dpF F D f k = dpF F' D' f k
  | 0, _ => rfl
  | k + 1, h => by
    rw [dpF, dpF, dpF_congr k (fun j hj => h j (by omega)), (h k (by omega)).1, (h k (by omega)).2]
theorem dpF_b {F D : Nat → Int} {f : Int} : ∀ k, (∀ j, j < k → 0 ≤ D j ∧ D j ≤ 40) → 0 ≤ dpF F D f k ∧ dpF F D f k ≤ 40
  | 0, _ => by rw [dpF]; decide
  | k + 1, h => by
    have ih := dpF_b (F := F) (D := D) (f := f) k (fun j hj => h j (by omega))
    have h1 := h k (by omega)
    rw [dpF]
    by_cases c : F k = f
    · rw [ifZ_y c]; omega
    · rw [ifZ_n c]; exact ih
def topP (pr fa sp : Nat → Int) (q : Nat → Nat → Int) (o : Nat → Nat) (b calm : Int) (r : Nat) : Prop := cnd q (-1) b (o r) ∧ (lik pr fa sp q o b calm r r).1 < 0
theorem top_iff {pr fa sp : Nat → Int} {q : Nat → Nat → Int} {o : Nat → Nat} {b calm : Int} {n r : Nat} (hO : okQ n q o) (hr : r < n) : foN pr fa sp q o b calm n (o r) = ((o r : Nat) : Int) ↔ topP pr fa sp q o b calm r := by
  rw [(foN_at (pr := pr) (fa := fa) (sp := sp) (b := b) (calm := calm) hO hr).1]
  unfold foP topP
  by_cases c : cnd q (-1) b (o r)
  · rw [ifZ_y c]
    rcases lik_c (pr := pr) (fa := fa) (sp := sp) (q := q) (o := o) (b := b) (calm := calm) r with ⟨h1, h2⟩ | ⟨s, h1, h2, h3, h4⟩
    · rw [(fs_top h2).1]
      exact ⟨fun _ => ⟨c, by omega⟩, fun _ => rfl⟩
    · have hle := fsP_le (pr := pr) (fa := fa) (sp := sp) (q := q) (o := o) (b := b) (calm := calm) s s
      rw [(fs_up h4).1]
      have hne : o (fsP pr fa sp q o b calm s s) ≠ o r := ahd_ne (hO.2.2.2.1 _ r (by omega) hr)
      exact ⟨fun z => absurd (by omega) hne, fun z => by have := z.2; omega⟩
  · rw [ifZ_n c]
    exact ⟨fun z => by omega, fun z => absurd z.1 c⟩
noncomputable def ansG (n : Nat) (q : Nat → Nat → Int) (o : Nat → Nat) (st pr fa sp : Nat → Int) (v b w : Int) : Int := if whX q n v b (bt (0 ≤ w ∧ w ≤ 3)) = 0 then (if w = 0 then foN pr fa sp q o b (st 3) n v.toNat else if w = 1 then cntZ (fun j => foN pr fa sp q o b (st 3) n j = foN pr fa sp q o b (st 3) n v.toNat) n else if w = 2 then dpF (foN pr fa sp q o b (st 3) n) (deN pr fa sp q o b (st 3) n) (foN pr fa sp q o b (st 3) n v.toNat) n else deN pr fa sp q o b (st 3) n v.toNat) else whX q n v b (bt (0 ≤ w ∧ w ≤ 3))
noncomputable def ansI (n : Nat) (q : Nat → Nat → Int) (o : Nat → Nat) (st pr fa sp : Nat → Int) (b i : Int) : Int := if ¬ (0 ≤ b ∧ b ≤ 3999) then -2 else if i = -1 then cntZ (topP pr fa sp q o b (st 3)) n else srch (fun r => topP pr fa sp q o b (st 3) r ∧ cntZ (topP pr fa sp q o b (st 3)) r = i) (fun r => ((o r : Nat) : Int)) n

set_option maxRecDepth 100000 in
set_option maxHeartbeats 4000000 in
theorem t_X9_family {nx : Nat} {h : Nat → Option PC} {n : Nat} {q : Nat → Nat → Int} {o : Nat → Nat} {pr : Nat → Int} {fa : Nat → Int} {sp : Nat → Int} {fo : Nat → Int} {de : Nat → Int} {fc : Nat} {st : Nat → Int} {v : Int} {b : Int} {w : Int} (hQ : isQ h n q o) (hO : okQ n q o) (hM : isMo h pr fa sp fo de) (hS : okS pr fa sp) (h0 : h 0 = some (oO 8 [zR 1, zR 2, zR 11, zR 34, zR 36, zR 42, zR 44, zI ((fc : Nat) : Int), zR 45, zR 48])) (h1 : h 1 = some (oA 0 5 st)) (hN : okN st) (ri_v : r32 v) (ri_b : r32 b) (ri_w : r32 w) : Cx 6 (0, 0) yX9_family cX9_family 6 (some .int) [zR 0, zI v, zI b, zI w] nx h (fun rr nx' l' => nx' = nx ∧ rr = some (zI (ansG n q o st pr fa sp v b w)) ∧ (l' = [] ∨ ∃ F D, l' = [(41, oA 0 40 D), (40, oA 0 40 F)])) := by
  refine cx_of pnX9_family (Nat.le_of_ble_eq_true rfl) ?_
  intro K G hr hnm hR
  obtain ⟨h2, h3, h4, h5, h6, h7, h8, h9, h10⟩ := id hQ
  have hn40 := hO.1
  obtain ⟨h36, h37, h38, h39, h40, h41⟩ := id hM
  obtain ⟨hN0, hN1, hN2, hN3, hN4⟩ := id hN
  have hwb := whX_b q n v b (bt (0 ≤ w ∧ w ≤ 3))
  show Wp K 6 (Mx K h (fun rr nx' l' => nx' = nx ∧ rr = some (zI (ansG n q o st pr fa sp v b w)) ∧ (l' = [] ∨ ∃ F D, l' = [(41, oA 0 40 D), (40, oA 0 40 F)])) (0, 0)) (0, 0) 0 [(0, zR 0), (1, zI v), (2, zI b), (3, zI w)] [] (nx, h, [])
  refine wp_aload_n G 0 dX9_family_0 rfl ?_
  refine wp_iload_n G 1 dX9_family_1 rfl ?_
  refine wp_iload_n G 2 dX9_family_2 rfl ?_
  refine wp_iload_n G 3 dX9_family_3 rfl ?_
  refine wp_iconst G dX9_family_4 ?_
  refine wp_iconst G dX9_family_5 ?_
  refine wp_cSE (as := [zI w, zI 0, zI 3]) (rest := [zI b, zI v, zR 0]) (hp2 := (nx, h, [])) G mX9_within lX9_127 sX9_within dX9_family_6 rfl rfl (Nat.le_of_ble_eq_true rfl) (rmx_ok hR (by decide) (by decide) (by decide) (by decide)) (t_X9_within (nx := nx) (v := w) (lo := 0) (hi := 3) (by omega) (by omega) (by omega)) rfl ?_
  refine wp_cVE (b := 0) (ci := 8) (as := [zI v, zI b, zI (bt (0 ≤ w ∧ w ≤ 3))]) (rest := []) (hp2 := (nx, h, [])) G mX9_refusalOfDaughter lX9_211 iX9_refusalOfDaughter eX9_refusalOfDaughter ⟨_, rfl, rfl⟩ dX9_family_9 h0 rfl rfl (Nat.le_of_ble_eq_true rfl) (rmx_ok hR (by decide) (by decide) (by decide) (by decide)) (t_X9_refusalOfDaughter (nx := nx) (v := v) (b := b) (z := (bt (0 ≤ w ∧ w ≤ 3))) hQ hO h0 ri_v ri_b (bt_r _)) rfl ?_
  refine wp_istore (lv' := [(4, zI (whX q n v b (bt (0 ≤ w ∧ w ≤ 3)))), (0, zR 0), (1, zI v), (2, zI b), (3, zI w)]) G dX9_family_12 (by decide) rfl ?_
  refine wp_iload G 0 dX9_family_14 rfl ?_
  refine wp_if_eq G dX9_family_16 (by omega) (fun kq1 => ?_) (fun kq1 => ?_)
  · skip
    have hw0 := whX_0 kq1
    have hw3 : 0 ≤ w ∧ w ≤ 3 := Classical.byContradiction (fun z => hw0.2.2.1 (bt_0 z))
    have hw00 := kq1
    obtain ⟨kp, ep⟩ := Int.eq_ofNat_of_zero_le (show 0 ≤ v by omega)
    subst ep
    obtain ⟨p, hp, ep⟩ := hO.2.2.2.2 kp (by omega)
    subst ep
    have hop := hO.o p hp
    refine wp_aload_n G 1 dX9_family_22 rfl ?_
    refine wp_get G 4 cOk8 fX9_37 dX9_family_23 h0 rfl ?_
    refine wp_aload_n G 1 dX9_family_26 rfl ?_
    refine wp_get G 1 cOk8 fX9_16 dX9_family_27 h0 rfl ?_
    refine wp_iload_n G 3 dX9_family_30 rfl ?_
    refine wp_aload_n G 1 dX9_family_31 rfl ?_
    refine wp_get G 0 cOk8 fX9_7 dX9_family_32 h0 rfl ?_
    refine wp_iconst G dX9_family_35 ?_
    refine wp_iald (j := 3) G dX9_family_36 h1 rfl (by decide) (by decide) ?_
    have rrq1 := hN.r 3 (by decide)
    refine wp_cVN (b := 36) (ci := 4) (as := [zR 2, zI b, zI (st 3)]) (rest := []) (hp2 := (nx, h, [(41, oA 0 40 ((trF pr fa sp q o b (st 3) fo de n).2)), (40, oA 0 40 ((trF pr fa sp q o b (st 3) fo de n).1))])) G mX4_trace lX9_218 iX4_trace eX4_trace ⟨_, rfl, rfl⟩ dX9_family_37 h36 rfl rfl (Nat.le_of_ble_eq_true rfl) (rmx_ok hR (by decide) (by decide) (by decide) (by decide)) (t_X4_trace (nx := nx) (b := b) (calm := (st 3)) hQ hO hM hS hN3 ri_b) rfl ?_
    have htn : ∀ j, j < n → (trF pr fa sp q o b (st 3) fo de n).1 j = foN pr fa sp q o b (st 3) n j ∧ (trF pr fa sp q o b (st 3) fo de n).2 j = deN pr fa sp q o b (st 3) n j := tr_n hO
    have htr : (∀ j, j < n → r32 ((trF pr fa sp q o b (st 3) fo de n).1 j)) ∧ ∀ j, j < n → 0 ≤ (trF pr fa sp q o b (st 3) fo de n).2 j ∧ (trF pr fa sp q o b (st 3) fo de n).2 j ≤ 40 := tr_r hO
    have hfp := htn (o p) hop
    have hfb := foN_b (pr := pr) (fa := fa) (sp := sp) (b := b) (calm := st 3) hO (o p) hop
    refine wp_aload_n G 1 dX9_family_40 rfl ?_
    refine wp_get G 4 cOk8 fX9_37 dX9_family_41 h0 rfl ?_
    refine wp_get G 3 cOk4 fX9_222 dX9_family_44 h36 rfl ?_
    refine wp_iload_n G 2 dX9_family_47 rfl ?_
    refine wp_iald (j := o p) G dX9_family_48 rfl rfl (by omega) (by decide) ?_
    refine wp_istore (lv' := [(5, zI (((trF pr fa sp q o b (st 3) fo de n).1) (o p))), (4, zI (whX q n ((o p : Nat) : Int) b (bt (0 ≤ w ∧ w ≤ 3)))), (0, zR 0), (1, zI ((o p : Nat) : Int)), (2, zI b), (3, zI w)]) G dX9_family_49 (by decide) rfl ?_
    refine wp_iload_n G 5 dX9_family_51 rfl ?_
    have sq1 : w = 0 ∨ w = 1 ∨ w = 2 ∨ (w < 0 ∨ 2 < w) := by omega
    rcases sq1 with rfl | rfl | rfl | sq1
    · refine wp_tableIn (off := 28) (tgt := 80) G dX9_family_52 (by omega) (by omega) (by omega) rfl (by decide) ?_
      refine wp_iload G 0 dX9_family_80 rfl ?_
      exact wp_ireturn G hr dX9_family_82 (by exact ⟨rfl, congrArg (fun z => some (zI z)) (by rw [ansG, if_pos hw00]; simp only [Int.toNat_natCast]; rw [if_pos (by first | exact trivial | rfl), hfp.1]), Or.inr ⟨_, _, rfl⟩⟩)
    · refine wp_tableIn (off := 31) (tgt := 83) G dX9_family_52 (by omega) (by omega) (by omega) rfl (by decide) ?_
      refine wp_aload_n G 2 dX9_family_83 rfl ?_
      refine wp_get G 4 cOk8 fX9_37 dX9_family_84 h0 rfl ?_
      refine wp_aload_n G 2 dX9_family_87 rfl ?_
      refine wp_get G 1 cOk8 fX9_16 dX9_family_88 h0 rfl ?_
      refine wp_iload G 0 dX9_family_91 rfl ?_
      refine wp_cVE (b := 36) (ci := 4) (as := [zR 2, zI (((trF pr fa sp q o b (st 3) fo de n).1) (o p))]) (rest := []) (hp2 := (nx, h, [(41, oA 0 40 ((trF pr fa sp q o b (st 3) fo de n).2)), (40, oA 0 40 ((trF pr fa sp q o b (st 3) fo de n).1))])) G mX4_sizeOfFamily lX9_225 iX4_sizeOfFamily eX4_sizeOfFamily ⟨_, rfl, rfl⟩ dX9_family_93 h36 rfl rfl (Nat.le_of_ble_eq_true rfl) (rmx_ok hR (by decide) (by decide) (by decide) (by decide)) (t_X4_sizeOfFamily (nx := nx) (f := (((trF pr fa sp q o b (st 3) fo de n).1) (o p))) (fo := ((trF pr fa sp q o b (st 3) fo de n).1)) (de := ((trF pr fa sp q o b (st 3) fo de n).2)) hQ hO ⟨h36, h37, h38, h39, rfl, rfl⟩ hS htr.1 (by omega)) rfl ?_
      exact wp_ireturn G hr dX9_family_96 (by exact ⟨rfl, congrArg (fun z => some (zI z)) (by rw [ansG, if_pos hw00]; simp only [Int.toNat_natCast]; rw [if_neg (by decide), if_pos (by first | exact trivial | rfl), hfp.1]; exact cntZ_congr n (fun j hj => by rw [(htn j hj).1])), Or.inr ⟨_, _, rfl⟩⟩)
    · refine wp_tableIn (off := 45) (tgt := 97) G dX9_family_52 (by omega) (by omega) (by omega) rfl (by decide) ?_
      refine wp_aload_n G 2 dX9_family_97 rfl ?_
      refine wp_get G 4 cOk8 fX9_37 dX9_family_98 h0 rfl ?_
      refine wp_aload_n G 2 dX9_family_101 rfl ?_
      refine wp_get G 1 cOk8 fX9_16 dX9_family_102 h0 rfl ?_
      refine wp_iload G 0 dX9_family_105 rfl ?_
      refine wp_cVE (b := 36) (ci := 4) (as := [zR 2, zI (((trF pr fa sp q o b (st 3) fo de n).1) (o p))]) (rest := []) (hp2 := (nx, h, [(41, oA 0 40 ((trF pr fa sp q o b (st 3) fo de n).2)), (40, oA 0 40 ((trF pr fa sp q o b (st 3) fo de n).1))])) G mX4_deepestOfFamily lX9_229 iX4_deepestOfFamily eX4_deepestOfFamily ⟨_, rfl, rfl⟩ dX9_family_107 h36 rfl rfl (Nat.le_of_ble_eq_true rfl) (rmx_ok hR (by decide) (by decide) (by decide) (by decide)) (t_X4_deepestOfFamily (nx := nx) (f := (((trF pr fa sp q o b (st 3) fo de n).1) (o p))) (fo := ((trF pr fa sp q o b (st 3) fo de n).1)) (de := ((trF pr fa sp q o b (st 3) fo de n).2)) hQ hO ⟨h36, h37, h38, h39, rfl, rfl⟩ hS htr.1 htr.2 (by omega)) rfl ?_
      exact wp_ireturn G hr dX9_family_110 (by exact ⟨rfl, congrArg (fun z => some (zI z)) (by rw [ansG, if_pos hw00]; simp only [Int.toNat_natCast]; rw [if_neg (by decide), if_neg (by decide), if_pos (by first | exact trivial | rfl), hfp.1]; exact dpF_congr n htn), Or.inr ⟨_, _, rfl⟩⟩)
    · refine wp_tableOut (tgt := 111) G dX9_family_52 (by omega) sq1 (by decide) ?_
      refine wp_aload_n G 2 dX9_family_111 rfl ?_
      refine wp_get G 4 cOk8 fX9_37 dX9_family_112 h0 rfl ?_
      refine wp_get G 4 cOk4 fX9_232 dX9_family_115 h36 rfl ?_
      refine wp_iload_n G 3 dX9_family_118 rfl ?_
      refine wp_iald (j := o p) G dX9_family_119 rfl rfl (by omega) (by decide) ?_
      exact wp_ireturn G hr dX9_family_120 (by exact ⟨rfl, congrArg (fun z => some (zI z)) (by rw [ansG, if_pos hw00]; simp only [Int.toNat_natCast]; rw [if_neg (by omega), if_neg (by omega), if_neg (by omega), hfp.2]), Or.inr ⟨_, _, rfl⟩⟩)
  · skip
    refine wp_iload G 0 dX9_family_19 rfl ?_
    exact wp_ireturn G hr dX9_family_21 (by exact ⟨rfl, by rw [ansG, if_neg (by assumption)], Or.inl rfl⟩)

set_option maxRecDepth 100000 in
set_option maxHeartbeats 4000000 in
theorem t_X10_family {nx : Nat} {h : Nat → Option PC} {n : Nat} {q : Nat → Nat → Int} {o : Nat → Nat} {fc : Nat} {hn : Nat} {ln : Nat} {ma : Int} {mb : Int} {st : Nat → Int} {pr : Nat → Int} {fa : Nat → Int} {sp : Nat → Int} {v : Int} {b : Int} {w : Int} (hQ : isM h n q o fc hn ln ma mb st) (hO : okQ n q o) (hN : okN st) (hMs : isMs h pr fa sp) (hS : okS pr fa sp) (ri_v : r32 v) (ri_b : r32 b) (ri_w : r32 w) : Cx 7 (0, 0) yX10_family cX10_family 9 (some .int) [zR 64, zI v, zI b, zI w] nx h (Rt (zI (ansG n q o st pr fa sp v b w)) nx []) := by
  refine cx_of pnX10_family (Nat.le_of_ble_eq_true rfl) ?_
  intro K G hr hnm hR
  obtain ⟨h64, h65, h66, h67, h68, h69, h70, h71, h72, h73⟩ := id hQ
  have hn40 := hO.1
  obtain ⟨hN0, hN1, hN2, hN3, hN4⟩ := id hN
  obtain ⟨h77, h78, h79⟩ := id hMs
  show Wp K 9 (Mx K h (Rt (zI (ansG n q o st pr fa sp v b w)) nx []) (0, 0)) (0, 0) 0 [(0, zR 64), (1, zI v), (2, zI b), (3, zI w)] [] (nx, h, [])
  refine wp_aload_n G 0 dX10_family_0 rfl ?_
  refine wp_iload_n G 1 dX10_family_1 rfl ?_
  refine wp_cVE (b := 64) (ci := 9) (as := [zI v]) (rest := []) (hp2 := (nx, h, [])) G mX10_isQuake lX10_126 iX10_isQuake eX10_isQuake ⟨_, rfl, rfl⟩ dX10_family_2 h64 rfl rfl (Nat.le_of_ble_eq_true rfl) (rmx_ok hR (by decide) (by decide) (by decide) (by decide)) (t_X10_isQuake (nx := nx) (v := v) hQ hO hN ri_v) rfl ?_
  refine wp_ifne_bt G dX10_family_5 (fun kq1 => ?_) (fun kq1 => ?_)
  · skip
    refine wp_iload_n G 2 dX10_family_10 rfl ?_
    refine wp_cSE (as := [zI b]) (rest := []) (hp2 := (nx, h, [])) G mX10_isDay lX10_120 sX10_isDay dX10_family_11 rfl rfl (Nat.le_of_ble_eq_true rfl) (rmx_ok hR (by decide) (by decide) (by decide) (by decide)) (t_X10_isDay (nx := nx) (v := b) (by omega)) rfl ?_
    refine wp_ifeq_bt G dX10_family_14 (fun kq2 => ?_) (fun kq2 => ?_)
    · skip
      refine wp_bipush G dX10_family_29 (by decide) ?_
      exact wp_ireturn G hr dX10_family_31 ⟨by have ew : whX q n v b (bt (0 ≤ w ∧ w ≤ 3)) = -2 := whX_r2 (by omega) (by intro z; first | (have := z.1; omega) | exact z.2 (bt_0 (by omega))); rw [ansG, if_neg (by omega), ew], rfl, by rfl⟩
    · skip
      refine wp_iload_n G 3 dX10_family_17 rfl ?_
      refine wp_i2l G (by omega) dX10_family_18 ?_
      refine wp_lconst (z := 0) G dX10_family_19 (by decide) ?_
      refine wp_ldc2 (z := 3) G kX10_232 dX10_family_20 ?_
      refine wp_cSE (as := [zJ w, zJ 0, zJ 3]) (rest := []) (hp2 := (nx, h, [])) G mX10_in lX10_100 sX10_in dX10_family_23 rfl rfl (Nat.le_of_ble_eq_true rfl) (rmx_ok hR (by decide) (by decide) (by decide) (by decide)) (t_X10_in (nx := nx) (v := w) (lo := 0) (hi := 3) (by omega) (by omega) (by omega)) rfl ?_
      refine wp_ifne_bt G dX10_family_26 (fun kq3 => ?_) (fun kq3 => ?_)
      · skip
        obtain ⟨kp, ep⟩ := Int.eq_ofNat_of_zero_le (show 0 ≤ v by omega)
        subst ep
        obtain ⟨p, hp, ep⟩ := hO.2.2.2.2 kp (by omega)
        subst ep
        have hop := hO.o p hp
        refine wp_aload_n G 0 dX10_family_32 rfl ?_
        refine wp_iload_n G 1 dX10_family_33 rfl ?_
        refine wp_iconst G dX10_family_34 ?_
        refine wp_iload_n G 2 dX10_family_35 rfl ?_
        refine wp_cVE (b := 64) (ci := 9) (as := [zI ((o p : Nat) : Int), zI (-1), zI b]) (rest := []) (hp2 := (nx, h, [])) G mX10_isCounted lX10_167 iX10_isCounted eX10_isCounted ⟨_, rfl, rfl⟩ dX10_family_36 h64 rfl rfl (Nat.le_of_ble_eq_true rfl) (rmx_ok hR (by decide) (by decide) (by decide) (by decide)) (t_X10_isCounted (nx := nx) (j := (o p)) (a := (-1)) (b := b) hQ hO hN hop (by omega) ri_b) rfl ?_
        refine wp_ifne_bt G dX10_family_39 (fun kq4 => ?_) (fun kq4 => ?_)
        · skip
          have hw00 : whX q n ((o p : Nat) : Int) b (bt (0 ≤ w ∧ w ≤ 3)) = 0 := whX_r0 (by omega) ⟨by omega, by rw [bt_1 (by omega)]; decide⟩ (by assumption)
          have hfl := fsP_le (pr := pr) (fa := fa) (sp := sp) (q := q) (o := o) (b := b) (calm := st 3) p p
          have hofp := hO.o (fsP pr fa sp q o b (st 3) p p) (by omega)
          have hfv := (foN_at (pr := pr) (fa := fa) (sp := sp) (b := b) (calm := st 3) hO hp)
          unfold foP deP at hfv
          rw [ifZ_y (by assumption), ifZ_y (by assumption)] at hfv
          refine wp_aload_n G 0 dX10_family_45 rfl ?_
          refine wp_iload_n G 1 dX10_family_46 rfl ?_
          refine wp_iload_n G 2 dX10_family_47 rfl ?_
          refine wp_cVE (b := 64) (ci := 9) (as := [zI ((o p : Nat) : Int), zI b]) (rest := []) (hp2 := (nx, h, [])) G mX10_firstOf lX10_234 iX10_firstOf eX10_firstOf ⟨_, rfl, rfl⟩ dX10_family_48 h64 rfl rfl (Nat.le_of_ble_eq_true rfl) (rmx_ok hR (by decide) (by decide) (by decide) (by decide)) (t_X10_firstOf (nx := nx) (p := p) (b := b) hQ hO hN hMs hS hp ri_b) rfl ?_
          refine wp_istore (lv' := [(4, zI ((o (fsP pr fa sp q o b (st 3) p p) : Nat) : Int)), (0, zR 64), (1, zI ((o p : Nat) : Int)), (2, zI b), (3, zI w)]) G dX10_family_51 (by decide) rfl ?_
          refine wp_iconst G dX10_family_53 ?_
          refine wp_istore (lv' := [(5, zI 0), (4, zI ((o (fsP pr fa sp q o b (st 3) p p) : Nat) : Int)), (0, zR 64), (1, zI ((o p : Nat) : Int)), (2, zI b), (3, zI w)]) G dX10_family_54 (by decide) rfl ?_
          refine wp_iconst G dX10_family_56 ?_
          refine wp_istore (lv' := [(6, zI 0), (5, zI 0), (4, zI ((o (fsP pr fa sp q o b (st 3) p p) : Nat) : Int)), (0, zR 64), (1, zI ((o p : Nat) : Int)), (2, zI b), (3, zI w)]) G dX10_family_57 (by decide) rfl ?_
          refine wp_iconst G dX10_family_59 ?_
          refine wp_istore (lv' := [(7, zI 0), (6, zI 0), (5, zI 0), (4, zI ((o (fsP pr fa sp q o b (st 3) p p) : Nat) : Int)), (0, zR 64), (1, zI ((o p : Nat) : Int)), (2, zI b), (3, zI w)]) G dX10_family_60 (by decide) rfl ?_
          refine wp_lv [4, 5, 6, 7, 3, 2, 1, 0] rfl ?_
          suffices lp62 : ∀ (fu : Nat) (k : Nat) (v5 : Int) (v6 : Int) (v7 : Int), n - k < fu → (v5 = cntZ (fun j => foN pr fa sp q o b (st 3) n j = ((o (fsP pr fa sp q o b (st 3) p p) : Nat) : Int)) k) → (v6 = dpF (foN pr fa sp q o b (st 3) n) (deN pr fa sp q o b (st 3) n) ((o (fsP pr fa sp q o b (st 3) p p) : Nat) : Int) k) → (v7 = ((k : Nat) : Int)) → (k ≤ n) → Wp K 9 (Mx K h (Rt (zI (ansG n q o st pr fa sp ((o p : Nat) : Int) b w)) nx []) (0, 0)) (0, 0) 62 [(0, zR 64), (1, zI ((o p : Nat) : Int)), (2, zI b), (3, zI w), (4, zI ((o (fsP pr fa sp q o b (st 3) p p) : Nat) : Int)), (5, zI v5), (6, zI v6), (7, zI v7)] [] (nx, h, []) from lp62 _ 0 0 0 0 (Nat.lt_succ_self _) (by rfl) (by rfl) (by omega) (by omega)
          intro fu
          induction fu with
          | zero => intro k v5 v6 v7 hm; exact absurd hm (Nat.not_lt_zero _)
          | succ fu ih62 =>
            intro k v5 v6 v7 hm62 e5 e6 e7 hi0
            subst e5
            subst e6
            subst e7
            have hdb := dpF_b (F := foN pr fa sp q o b (st 3) n) (D := deN pr fa sp q o b (st 3) n) (f := ((o (fsP pr fa sp q o b (st 3) p p) : Nat) : Int)) k (fun j hj => (foN_b (pr := pr) (fa := fa) (sp := sp) (b := b) (calm := st 3) hO j (by omega)).2)
            refine wp_iload G 7 dX10_family_62 rfl ?_
            refine wp_aload_n G 0 dX10_family_64 rfl ?_
            refine wp_get G 7 cOk9 fX10_96 dX10_family_65 h64 rfl ?_
            refine wp_icmp_ge G dX10_family_68 (by omega) (by omega) (fun kq5 => ?_) (fun kq5 => ?_)
            · skip
              refine wp_iload_n G 3 dX10_family_128 rfl ?_
              refine wp_if_ne G dX10_family_129 (by omega) (fun kq6 => ?_) (fun kq6 => ?_)
              · skip
                refine wp_iload_n G 3 dX10_family_137 rfl ?_
                refine wp_iconst G dX10_family_138 ?_
                refine wp_icmp_ne G dX10_family_139 (by omega) (by omega) (fun kq7 => ?_) (fun kq7 => ?_)
                · skip
                  refine wp_iload_n G 3 dX10_family_147 rfl ?_
                  refine wp_iconst G dX10_family_148 ?_
                  refine wp_icmp_ne G dX10_family_149 (by omega) (by omega) (fun kq8 => ?_) (fun kq8 => ?_)
                  · skip
                    refine wp_aload_n G 0 dX10_family_157 rfl ?_
                    refine wp_iload_n G 1 dX10_family_158 rfl ?_
                    refine wp_iload_n G 2 dX10_family_159 rfl ?_
                    refine wp_cVE (b := 64) (ci := 9) (as := [zI ((o p : Nat) : Int), zI b]) (rest := []) (hp2 := (nx, h, [])) G mX10_depthOf lX10_237 iX10_depthOf eX10_depthOf ⟨_, rfl, rfl⟩ dX10_family_160 h64 rfl rfl (Nat.le_of_ble_eq_true rfl) (rmx_ok hR (by decide) (by decide) (by decide) (by decide)) (t_X10_depthOf (nx := nx) (p := p) (b := b) hQ hO hN hMs hS hp ri_b) rfl ?_
                    exact wp_ireturn G hr dX10_family_163 ⟨by have ek : k = n := (by omega); subst ek; rw [ansG, if_pos hw00]; simp only [Int.toNat_natCast]; first | (rw [if_pos (by omega), hfv.1]; done) | (rw [if_neg (by omega), if_pos (by omega), hfv.1]; done) | (rw [if_neg (by omega), if_neg (by omega), if_pos (by omega), hfv.1]; done) | (rw [if_neg (by omega), if_neg (by omega), if_neg (by omega), hfv.2]), rfl, by rfl⟩
                  · skip
                    refine wp_iload G 6 dX10_family_152 rfl ?_
                    refine wp_goto G dX10_family_154 ?_
                    exact wp_ireturn G hr dX10_family_163 ⟨by have ek : k = n := (by omega); subst ek; rw [ansG, if_pos hw00]; simp only [Int.toNat_natCast]; first | (rw [if_pos (by omega), hfv.1]; done) | (rw [if_neg (by omega), if_pos (by omega), hfv.1]; done) | (rw [if_neg (by omega), if_neg (by omega), if_pos (by omega), hfv.1]; done) | (rw [if_neg (by omega), if_neg (by omega), if_neg (by omega), hfv.2]), rfl, by rfl⟩
                · skip
                  refine wp_iload G 5 dX10_family_142 rfl ?_
                  refine wp_goto G dX10_family_144 ?_
                  exact wp_ireturn G hr dX10_family_163 ⟨by have ek : k = n := (by omega); subst ek; rw [ansG, if_pos hw00]; simp only [Int.toNat_natCast]; first | (rw [if_pos (by omega), hfv.1]; done) | (rw [if_neg (by omega), if_pos (by omega), hfv.1]; done) | (rw [if_neg (by omega), if_neg (by omega), if_pos (by omega), hfv.1]; done) | (rw [if_neg (by omega), if_neg (by omega), if_neg (by omega), hfv.2]), rfl, by rfl⟩
              · skip
                refine wp_iload G 4 dX10_family_132 rfl ?_
                refine wp_goto G dX10_family_134 ?_
                exact wp_ireturn G hr dX10_family_163 ⟨by have ek : k = n := (by omega); subst ek; rw [ansG, if_pos hw00]; simp only [Int.toNat_natCast]; first | (rw [if_pos (by omega), hfv.1]; done) | (rw [if_neg (by omega), if_pos (by omega), hfv.1]; done) | (rw [if_neg (by omega), if_neg (by omega), if_pos (by omega), hfv.1]; done) | (rw [if_neg (by omega), if_neg (by omega), if_neg (by omega), hfv.2]), rfl, by rfl⟩
            · skip
              obtain ⟨r, hrn, er⟩ := hO.2.2.2.2 k (by omega)
              have hfk := foN_at (pr := pr) (fa := fa) (sp := sp) (b := b) (calm := st 3) hO hrn
              rw [er] at hfk
              unfold foP deP at hfk
              rw [er] at hfk
              have hfn : ¬ cnd q (-1) b k → foN pr fa sp q o b (st 3) n k = -6 := fun c => by rw [hfk.1, ifZ_n c]
              have hfy : cnd q (-1) b k → foN pr fa sp q o b (st 3) n k = ((o (fsP pr fa sp q o b (st 3) r r) : Nat) : Int) ∧ deN pr fa sp q o b (st 3) n k = ((dpP pr fa sp q o b (st 3) r r : Nat) : Int) := fun c => by rw [hfk.1, hfk.2, ifZ_y c, ifZ_y c]; exact ⟨rfl, rfl⟩
              have hflr := fsP_le (pr := pr) (fa := fa) (sp := sp) (q := q) (o := o) (b := b) (calm := st 3) r r
              have hofr := hO.o (fsP pr fa sp q o b (st 3) r r) (by omega)
              have hdlr := dpP_le (pr := pr) (fa := fa) (sp := sp) (q := q) (o := o) (b := b) (calm := st 3) r r
              refine wp_aload_n G 0 dX10_family_71 rfl ?_
              refine wp_iload G 7 dX10_family_72 rfl ?_
              refine wp_iconst G dX10_family_74 ?_
              refine wp_iload_n G 2 dX10_family_75 rfl ?_
              refine wp_cVE (b := 64) (ci := 9) (as := [zI ((k : Nat) : Int), zI (-1), zI b]) (rest := []) (hp2 := (nx, h, [])) G mX10_isCounted lX10_167 iX10_isCounted eX10_isCounted ⟨_, rfl, rfl⟩ dX10_family_76 h64 rfl rfl (Nat.le_of_ble_eq_true rfl) (rmx_ok hR (by decide) (by decide) (by decide) (by decide)) (t_X10_isCounted (nx := nx) (j := k) (a := (-1)) (b := b) hQ hO hN (by omega) (by omega) ri_b) rfl ?_
              refine wp_ifeq_bt G dX10_family_79 (fun kq9 => ?_) (fun kq9 => ?_)
              · skip
                refine wp_iinc (lv' := [(7, zI (((k : Nat) : Int) + 1)), (0, zR 64), (1, zI ((o p : Nat) : Int)), (2, zI b), (3, zI w), (4, zI ((o (fsP pr fa sp q o b (st 3) p p) : Nat) : Int)), (5, zI (cntZ (fun j => foN pr fa sp q o b (st 3) n j = ((o (fsP pr fa sp q o b (st 3) p p) : Nat) : Int)) k)), (6, zI (dpF (foN pr fa sp q o b (st 3) n) (deN pr fa sp q o b (st 3) n) ((o (fsP pr fa sp q o b (st 3) p p) : Nat) : Int) k))]) G 7 dX10_family_122 rfl (by decide) rfl ?_
                refine wp_goto G dX10_family_125 ?_
                refine wp_lv [1, 2, 3, 4, 5, 6, 7, 0] rfl ?_
                exact ih62 (k + 1) (cntZ (fun j => foN pr fa sp q o b (st 3) n j = ((o (fsP pr fa sp q o b (st 3) p p) : Nat) : Int)) k) (dpF (foN pr fa sp q o b (st 3) n) (deN pr fa sp q o b (st 3) n) ((o (fsP pr fa sp q o b (st 3) p p) : Nat) : Int) k) (((k : Nat) : Int) + 1) (by omega) (by first | (rw [cntZ_y (by omega)]; done) | (rw [cntZ_n (by omega)]; done) | (have hfz := hfn (by assumption); rw [cntZ_n (by omega)])) (by rw [dpF]; first | (rw [ifZ_y (by omega)]; omega) | (rw [ifZ_n (by omega)]; done) | (have hfz := hfn (by assumption); rw [ifZ_n (by omega)])) (by omega) (by omega)
              · skip
                rw [show ((k : Nat) : Int) = ((o r : Nat) : Int) by omega]
                refine wp_aload_n G 0 dX10_family_82 rfl ?_
                have hfy2 := hfy (by assumption)
                refine wp_iload G 7 dX10_family_83 rfl ?_
                refine wp_iload_n G 2 dX10_family_85 rfl ?_
                refine wp_cVE (b := 64) (ci := 9) (as := [zI ((o r : Nat) : Int), zI b]) (rest := []) (hp2 := (nx, h, [])) G mX10_firstOf lX10_234 iX10_firstOf eX10_firstOf ⟨_, rfl, rfl⟩ dX10_family_86 h64 rfl rfl (Nat.le_of_ble_eq_true rfl) (rmx_ok hR (by decide) (by decide) (by decide) (by decide)) (t_X10_firstOf (nx := nx) (p := r) (b := b) hQ hO hN hMs hS hrn ri_b) rfl ?_
                refine wp_iload G 4 dX10_family_89 rfl ?_
                refine wp_icmp_ne G dX10_family_91 (by omega) (by omega) (fun kq10 => ?_) (fun kq10 => ?_)
                · skip
                  refine wp_iinc (lv' := [(7, zI (((o r : Nat) : Int) + 1)), (0, zR 64), (1, zI ((o p : Nat) : Int)), (2, zI b), (3, zI w), (4, zI ((o (fsP pr fa sp q o b (st 3) p p) : Nat) : Int)), (5, zI (cntZ (fun j => foN pr fa sp q o b (st 3) n j = ((o (fsP pr fa sp q o b (st 3) p p) : Nat) : Int)) k)), (6, zI (dpF (foN pr fa sp q o b (st 3) n) (deN pr fa sp q o b (st 3) n) ((o (fsP pr fa sp q o b (st 3) p p) : Nat) : Int) k))]) G 7 dX10_family_122 rfl (by decide) rfl ?_
                  refine wp_goto G dX10_family_125 ?_
                  refine wp_lv [1, 2, 3, 4, 5, 6, 7, 0] rfl ?_
                  exact ih62 (k + 1) (cntZ (fun j => foN pr fa sp q o b (st 3) n j = ((o (fsP pr fa sp q o b (st 3) p p) : Nat) : Int)) k) (dpF (foN pr fa sp q o b (st 3) n) (deN pr fa sp q o b (st 3) n) ((o (fsP pr fa sp q o b (st 3) p p) : Nat) : Int) k) (((o r : Nat) : Int) + 1) (by omega) (by first | (rw [cntZ_y (by omega)]; done) | (rw [cntZ_n (by omega)]; done) | (have hfz := hfn (by assumption); rw [cntZ_n (by omega)])) (by rw [dpF]; first | (rw [ifZ_y (by omega)]; omega) | (rw [ifZ_n (by omega)]; done) | (have hfz := hfn (by assumption); rw [ifZ_n (by omega)])) (by omega) (by omega)
                · skip
                  refine wp_iinc (lv' := [(5, zI (cntZ (fun j => foN pr fa sp q o b (st 3) n j = ((o (fsP pr fa sp q o b (st 3) p p) : Nat) : Int)) k + 1)), (0, zR 64), (1, zI ((o p : Nat) : Int)), (2, zI b), (3, zI w), (4, zI ((o (fsP pr fa sp q o b (st 3) p p) : Nat) : Int)), (6, zI (dpF (foN pr fa sp q o b (st 3) n) (deN pr fa sp q o b (st 3) n) ((o (fsP pr fa sp q o b (st 3) p p) : Nat) : Int) k)), (7, zI ((o r : Nat) : Int))]) G 5 dX10_family_94 rfl (by decide) rfl ?_
                  refine wp_aload_n G 1 dX10_family_97 rfl ?_
                  refine wp_iload G 7 dX10_family_98 rfl ?_
                  refine wp_iload_n G 3 dX10_family_100 rfl ?_
                  refine wp_cVE (b := 64) (ci := 9) (as := [zI ((o r : Nat) : Int), zI b]) (rest := []) (hp2 := (nx, h, [])) G mX10_depthOf lX10_237 iX10_depthOf eX10_depthOf ⟨_, rfl, rfl⟩ dX10_family_101 h64 rfl rfl (Nat.le_of_ble_eq_true rfl) (rmx_ok hR (by decide) (by decide) (by decide) (by decide)) (t_X10_depthOf (nx := nx) (p := r) (b := b) hQ hO hN hMs hS hrn ri_b) rfl ?_
                  refine wp_istore (lv' := [(8, zI ((dpP pr fa sp q o b (st 3) r r : Nat) : Int)), (5, zI (cntZ (fun j => foN pr fa sp q o b (st 3) n j = ((o (fsP pr fa sp q o b (st 3) p p) : Nat) : Int)) k + 1)), (0, zR 64), (1, zI ((o p : Nat) : Int)), (2, zI b), (3, zI w), (4, zI ((o (fsP pr fa sp q o b (st 3) p p) : Nat) : Int)), (6, zI (dpF (foN pr fa sp q o b (st 3) n) (deN pr fa sp q o b (st 3) n) ((o (fsP pr fa sp q o b (st 3) p p) : Nat) : Int) k)), (7, zI ((o r : Nat) : Int))]) G dX10_family_104 (by decide) rfl ?_
                  refine wp_iload G 0 dX10_family_106 rfl ?_
                  refine wp_iload G 7 dX10_family_108 rfl ?_
                  refine wp_icmp_le G dX10_family_110 (by omega) (by omega) (fun kq11 => ?_) (fun kq11 => ?_)
                  · skip
                    refine wp_iload G 7 dX10_family_118 rfl ?_
                    refine wp_istore (lv' := [(6, zI (dpF (foN pr fa sp q o b (st 3) n) (deN pr fa sp q o b (st 3) n) ((o (fsP pr fa sp q o b (st 3) p p) : Nat) : Int) k)), (8, zI ((dpP pr fa sp q o b (st 3) r r : Nat) : Int)), (5, zI (cntZ (fun j => foN pr fa sp q o b (st 3) n j = ((o (fsP pr fa sp q o b (st 3) p p) : Nat) : Int)) k + 1)), (0, zR 64), (1, zI ((o p : Nat) : Int)), (2, zI b), (3, zI w), (4, zI ((o (fsP pr fa sp q o b (st 3) p p) : Nat) : Int)), (7, zI ((o r : Nat) : Int))]) G dX10_family_120 (by decide) rfl ?_
                    refine wp_iinc (lv' := [(7, zI (((o r : Nat) : Int) + 1)), (6, zI (dpF (foN pr fa sp q o b (st 3) n) (deN pr fa sp q o b (st 3) n) ((o (fsP pr fa sp q o b (st 3) p p) : Nat) : Int) k)), (8, zI ((dpP pr fa sp q o b (st 3) r r : Nat) : Int)), (5, zI (cntZ (fun j => foN pr fa sp q o b (st 3) n j = ((o (fsP pr fa sp q o b (st 3) p p) : Nat) : Int)) k + 1)), (0, zR 64), (1, zI ((o p : Nat) : Int)), (2, zI b), (3, zI w), (4, zI ((o (fsP pr fa sp q o b (st 3) p p) : Nat) : Int))]) G 8 dX10_family_122 rfl (by decide) rfl ?_
                    refine wp_goto G dX10_family_125 ?_
                    refine wp_lv [4, 5, 6, 7, 8, 3, 1, 0] rfl ?_
                    exact ih62 (k + 1) (cntZ (fun j => foN pr fa sp q o b (st 3) n j = ((o (fsP pr fa sp q o b (st 3) p p) : Nat) : Int)) k + 1) (dpF (foN pr fa sp q o b (st 3) n) (deN pr fa sp q o b (st 3) n) ((o (fsP pr fa sp q o b (st 3) p p) : Nat) : Int) k) (((o r : Nat) : Int) + 1) (by omega) (by first | (rw [cntZ_y (by omega)]; done) | (rw [cntZ_n (by omega)]; done) | (have hfz := hfn (by assumption); rw [cntZ_n (by omega)])) (by rw [dpF]; first | (rw [ifZ_y (by omega)]; omega) | (rw [ifZ_n (by omega)]; done) | (have hfz := hfn (by assumption); rw [ifZ_n (by omega)])) (by omega) (by omega)
                  · skip
                    refine wp_iload G 0 dX10_family_113 rfl ?_
                    refine wp_goto G dX10_family_115 ?_
                    refine wp_istore (lv' := [(6, zI ((dpP pr fa sp q o b (st 3) r r : Nat) : Int)), (8, zI ((dpP pr fa sp q o b (st 3) r r : Nat) : Int)), (5, zI (cntZ (fun j => foN pr fa sp q o b (st 3) n j = ((o (fsP pr fa sp q o b (st 3) p p) : Nat) : Int)) k + 1)), (0, zR 64), (1, zI ((o p : Nat) : Int)), (2, zI b), (3, zI w), (4, zI ((o (fsP pr fa sp q o b (st 3) p p) : Nat) : Int)), (7, zI ((o r : Nat) : Int))]) G dX10_family_120 (by decide) rfl ?_
                    refine wp_iinc (lv' := [(7, zI (((o r : Nat) : Int) + 1)), (6, zI ((dpP pr fa sp q o b (st 3) r r : Nat) : Int)), (8, zI ((dpP pr fa sp q o b (st 3) r r : Nat) : Int)), (5, zI (cntZ (fun j => foN pr fa sp q o b (st 3) n j = ((o (fsP pr fa sp q o b (st 3) p p) : Nat) : Int)) k + 1)), (0, zR 64), (1, zI ((o p : Nat) : Int)), (2, zI b), (3, zI w), (4, zI ((o (fsP pr fa sp q o b (st 3) p p) : Nat) : Int))]) G 8 dX10_family_122 rfl (by decide) rfl ?_
                    refine wp_goto G dX10_family_125 ?_
                    refine wp_lv [4, 5, 6, 7, 8, 3, 1, 0] rfl ?_
                    exact ih62 (k + 1) (cntZ (fun j => foN pr fa sp q o b (st 3) n j = ((o (fsP pr fa sp q o b (st 3) p p) : Nat) : Int)) k + 1) ((dpP pr fa sp q o b (st 3) r r : Nat) : Int) (((o r : Nat) : Int) + 1) (by omega) (by first | (rw [cntZ_y (by omega)]; done) | (rw [cntZ_n (by omega)]; done) | (have hfz := hfn (by assumption); rw [cntZ_n (by omega)])) (by rw [dpF]; first | (rw [ifZ_y (by omega)]; omega) | (rw [ifZ_n (by omega)]; done) | (have hfz := hfn (by assumption); rw [ifZ_n (by omega)])) (by omega) (by omega)
        · skip
          refine wp_bipush G dX10_family_42 (by decide) ?_
          exact wp_ireturn G hr dX10_family_44 ⟨by have ew : whX q n ((o p : Nat) : Int) b (bt (0 ≤ w ∧ w ≤ 3)) = -3 := whX_r3 (by omega) ⟨by omega, by rw [bt_1 (by omega)]; decide⟩ (by assumption); rw [ansG, if_neg (by omega), ew], rfl, by rfl⟩
      · skip
        refine wp_bipush G dX10_family_29 (by decide) ?_
        exact wp_ireturn G hr dX10_family_31 ⟨by have ew : whX q n v b (bt (0 ≤ w ∧ w ≤ 3)) = -2 := whX_r2 (by omega) (by intro z; first | (have := z.1; omega) | exact z.2 (bt_0 (by omega))); rw [ansG, if_neg (by omega), ew], rfl, by rfl⟩
  · skip
    refine wp_iconst G dX10_family_8 ?_
    exact wp_ireturn G hr dX10_family_9 ⟨by have ew : whX q n v b (bt (0 ≤ w ∧ w ≤ 3)) = -1 := whX_r1 (by omega); rw [ansG, if_neg (by omega), ew], rfl, by rfl⟩

set_option maxRecDepth 100000 in
set_option maxHeartbeats 4000000 in
theorem t_X9_families {nx : Nat} {h : Nat → Option PC} {n : Nat} {q : Nat → Nat → Int} {o : Nat → Nat} {pr : Nat → Int} {fa : Nat → Int} {sp : Nat → Int} {fo : Nat → Int} {de : Nat → Int} {fc : Nat} {st : Nat → Int} {b : Int} {i : Int} (hQ : isQ h n q o) (hO : okQ n q o) (hM : isMo h pr fa sp fo de) (hS : okS pr fa sp) (h0 : h 0 = some (oO 8 [zR 1, zR 2, zR 11, zR 34, zR 36, zR 42, zR 44, zI ((fc : Nat) : Int), zR 45, zR 48])) (h1 : h 1 = some (oA 0 5 st)) (hN : okN st) (ri_b : r32 b) (ri_i : r32 i) : Cx 6 (0, 0) yX9_families cX9_families 3 (some .int) [zR 0, zI b, zI i] nx h (fun rr nx' l' => nx' = nx ∧ rr = some (zI (ansI n q o st pr fa sp b i)) ∧ (l' = [] ∨ ∃ F D, l' = [(41, oA 0 40 D), (40, oA 0 40 F)])) := by
  refine cx_of pnX9_families (Nat.le_of_ble_eq_true rfl) ?_
  intro K G hr hnm hR
  obtain ⟨h2, h3, h4, h5, h6, h7, h8, h9, h10⟩ := id hQ
  have hn40 := hO.1
  obtain ⟨h36, h37, h38, h39, h40, h41⟩ := id hM
  obtain ⟨hN0, hN1, hN2, hN3, hN4⟩ := id hN
  show Wp K 3 (Mx K h (fun rr nx' l' => nx' = nx ∧ rr = some (zI (ansI n q o st pr fa sp b i)) ∧ (l' = [] ∨ ∃ F D, l' = [(41, oA 0 40 D), (40, oA 0 40 F)])) (0, 0)) (0, 0) 0 [(0, zR 0), (1, zI b), (2, zI i)] [] (nx, h, [])
  refine wp_iload_n G 1 dX9_families_0 rfl ?_
  refine wp_cSE (as := [zI b]) (rest := []) (hp2 := (nx, h, [])) G mX9_isDay lX9_80 sX9_isDay dX9_families_1 rfl rfl (Nat.le_of_ble_eq_true rfl) (rmx_ok hR (by decide) (by decide) (by decide) (by decide)) (t_X9_isDay (nx := nx) (v := b) (by omega)) rfl ?_
  refine wp_ifne_bt G dX9_families_4 (fun kq1 => ?_) (fun kq1 => ?_)
  · skip
    refine wp_aload_n G 0 dX9_families_10 rfl ?_
    refine wp_get G 4 cOk8 fX9_37 dX9_families_11 h0 rfl ?_
    refine wp_aload_n G 0 dX9_families_14 rfl ?_
    refine wp_get G 1 cOk8 fX9_16 dX9_families_15 h0 rfl ?_
    refine wp_iload_n G 1 dX9_families_18 rfl ?_
    refine wp_aload_n G 0 dX9_families_19 rfl ?_
    refine wp_get G 0 cOk8 fX9_7 dX9_families_20 h0 rfl ?_
    refine wp_iconst G dX9_families_23 ?_
    refine wp_iald (j := 3) G dX9_families_24 h1 rfl (by decide) (by decide) ?_
    have rrq1 := hN.r 3 (by decide)
    refine wp_cVN (b := 36) (ci := 4) (as := [zR 2, zI b, zI (st 3)]) (rest := []) (hp2 := (nx, h, [(41, oA 0 40 ((trF pr fa sp q o b (st 3) fo de n).2)), (40, oA 0 40 ((trF pr fa sp q o b (st 3) fo de n).1))])) G mX4_trace lX9_218 iX4_trace eX4_trace ⟨_, rfl, rfl⟩ dX9_families_25 h36 rfl rfl (Nat.le_of_ble_eq_true rfl) (rmx_ok hR (by decide) (by decide) (by decide) (by decide)) (t_X4_trace (nx := nx) (b := b) (calm := (st 3)) hQ hO hM hS hN3 ri_b) rfl ?_
    have htn : ∀ j, j < n → (trF pr fa sp q o b (st 3) fo de n).1 j = foN pr fa sp q o b (st 3) n j ∧ (trF pr fa sp q o b (st 3) fo de n).2 j = deN pr fa sp q o b (st 3) n j := tr_n hO
    have htr : (∀ j, j < n → r32 ((trF pr fa sp q o b (st 3) fo de n).1 j)) ∧ ∀ j, j < n → 0 ≤ (trF pr fa sp q o b (st 3) fo de n).2 j ∧ (trF pr fa sp q o b (st 3) fo de n).2 j ≤ 40 := tr_r hO
    have htp : ∀ r, r < n → ((trF pr fa sp q o b (st 3) fo de n).1 (o r) = ((o r : Nat) : Int) ↔ topP pr fa sp q o b (st 3) r) := fun r hr0 => by rw [(htn (o r) (hO.o r hr0)).1]; exact top_iff hO hr0
    refine wp_iload_n G 2 dX9_families_28 rfl ?_
    refine wp_iconst G dX9_families_29 ?_
    refine wp_icmp_ne G dX9_families_30 (by omega) (by omega) (fun kq2 => ?_) (fun kq2 => ?_)
    · skip
      refine wp_aload_n G 0 dX9_families_47 rfl ?_
      refine wp_get G 4 cOk8 fX9_37 dX9_families_48 h0 rfl ?_
      refine wp_aload_n G 0 dX9_families_51 rfl ?_
      refine wp_get G 1 cOk8 fX9_16 dX9_families_52 h0 rfl ?_
      refine wp_iload_n G 2 dX9_families_55 rfl ?_
      refine wp_cVE (b := 36) (ci := 4) (as := [zR 2, zI i]) (rest := []) (hp2 := (nx, h, [(41, oA 0 40 ((trF pr fa sp q o b (st 3) fo de n).2)), (40, oA 0 40 ((trF pr fa sp q o b (st 3) fo de n).1))])) G mX4_firstAt lX9_239 iX4_firstAt eX4_firstAt ⟨_, rfl, rfl⟩ dX9_families_56 h36 rfl rfl (Nat.le_of_ble_eq_true rfl) (rmx_ok hR (by decide) (by decide) (by decide) (by decide)) (t_X4_firstAt (nx := nx) (f := i) (fo := ((trF pr fa sp q o b (st 3) fo de n).1)) (de := ((trF pr fa sp q o b (st 3) fo de n).2)) hQ hO ⟨h36, h37, h38, h39, rfl, rfl⟩ hS htr.1 (by omega)) rfl ?_
      exact wp_ireturn G hr dX9_families_59 (by first | (exact ⟨rfl, congrArg (fun z => some (zI z)) (by rw [ansI, if_neg (by omega), if_pos (by omega), ← cnt_perm hO (fun j => (trF pr fa sp q o b (st 3) fo de n).1 j = ((j : Nat) : Int))]; exact cntZ_congr n (fun r hr0 => htp r hr0)), Or.inr ⟨_, _, rfl⟩⟩) | (exact ⟨rfl, congrArg (fun z => some (zI z)) (by rw [ansI, if_neg (by omega), if_neg (by omega)]; exact srch_congr n (fun r hr0 => by rw [cntZ_congr r (fun s hs => htp s (by omega))]; exact ⟨fun z => ⟨(htp r hr0).mp z.1, z.2⟩, fun z => ⟨(htp r hr0).mpr z.1, z.2⟩⟩)), Or.inr ⟨_, _, rfl⟩⟩))
    · skip
      refine wp_aload_n G 0 dX9_families_33 rfl ?_
      refine wp_get G 4 cOk8 fX9_37 dX9_families_34 h0 rfl ?_
      refine wp_aload_n G 0 dX9_families_37 rfl ?_
      refine wp_get G 1 cOk8 fX9_16 dX9_families_38 h0 rfl ?_
      refine wp_cVE (b := 36) (ci := 4) (as := [zR 2]) (rest := []) (hp2 := (nx, h, [(41, oA 0 40 ((trF pr fa sp q o b (st 3) fo de n).2)), (40, oA 0 40 ((trF pr fa sp q o b (st 3) fo de n).1))])) G mX4_howManyFirst lX9_235 iX4_howManyFirst eX4_howManyFirst ⟨_, rfl, rfl⟩ dX9_families_41 h36 rfl rfl (Nat.le_of_ble_eq_true rfl) (rmx_ok hR (by decide) (by decide) (by decide) (by decide)) (t_X4_howManyFirst (nx := nx) (fo := ((trF pr fa sp q o b (st 3) fo de n).1)) (de := ((trF pr fa sp q o b (st 3) fo de n).2)) hQ hO ⟨h36, h37, h38, h39, rfl, rfl⟩ hS htr.1) rfl ?_
      refine wp_goto G dX9_families_44 ?_
      exact wp_ireturn G hr dX9_families_59 (by first | (exact ⟨rfl, congrArg (fun z => some (zI z)) (by rw [ansI, if_neg (by omega), if_pos (by omega), ← cnt_perm hO (fun j => (trF pr fa sp q o b (st 3) fo de n).1 j = ((j : Nat) : Int))]; exact cntZ_congr n (fun r hr0 => htp r hr0)), Or.inr ⟨_, _, rfl⟩⟩) | (exact ⟨rfl, congrArg (fun z => some (zI z)) (by rw [ansI, if_neg (by omega), if_neg (by omega)]; exact srch_congr n (fun r hr0 => by rw [cntZ_congr r (fun s hs => htp s (by omega))]; exact ⟨fun z => ⟨(htp r hr0).mp z.1, z.2⟩, fun z => ⟨(htp r hr0).mpr z.1, z.2⟩⟩)), Or.inr ⟨_, _, rfl⟩⟩))
  · skip
    refine wp_bipush G dX9_families_7 (by decide) ?_
    exact wp_ireturn G hr dX9_families_9 (by exact ⟨rfl, by rw [ansI, if_pos (by omega)], Or.inl rfl⟩)

set_option maxRecDepth 100000 in
set_option maxHeartbeats 4000000 in
theorem t_X10_families {nx : Nat} {h : Nat → Option PC} {n : Nat} {q : Nat → Nat → Int} {o : Nat → Nat} {fc : Nat} {hn : Nat} {ln : Nat} {ma : Int} {mb : Int} {st : Nat → Int} {pr : Nat → Int} {fa : Nat → Int} {sp : Nat → Int} {b : Int} {i : Int} (hQ : isM h n q o fc hn ln ma mb st) (hO : okQ n q o) (hN : okN st) (hMs : isMs h pr fa sp) (hS : okS pr fa sp) (ri_b : r32 b) (ri_i : r32 i) : Cx 5 (0, 0) yX10_families cX10_families 5 (some .int) [zR 64, zI b, zI i] nx h (Rt (zI (ansI n q o st pr fa sp b i)) nx []) := by
  refine cx_of pnX10_families (Nat.le_of_ble_eq_true rfl) ?_
  intro K G hr hnm hR
  obtain ⟨h64, h65, h66, h67, h68, h69, h70, h71, h72, h73⟩ := id hQ
  have hn40 := hO.1
  obtain ⟨hN0, hN1, hN2, hN3, hN4⟩ := id hN
  obtain ⟨h77, h78, h79⟩ := id hMs
  show Wp K 5 (Mx K h (Rt (zI (ansI n q o st pr fa sp b i)) nx []) (0, 0)) (0, 0) 0 [(0, zR 64), (1, zI b), (2, zI i)] [] (nx, h, [])
  refine wp_iload_n G 1 dX10_families_0 rfl ?_
  refine wp_cSE (as := [zI b]) (rest := []) (hp2 := (nx, h, [])) G mX10_isDay lX10_120 sX10_isDay dX10_families_1 rfl rfl (Nat.le_of_ble_eq_true rfl) (rmx_ok hR (by decide) (by decide) (by decide) (by decide)) (t_X10_isDay (nx := nx) (v := b) (by omega)) rfl ?_
  refine wp_ifne_bt G dX10_families_4 (fun kq1 => ?_) (fun kq1 => ?_)
  · skip
    refine wp_iconst G dX10_families_10 ?_
    refine wp_istore_n (lv' := [(3, zI 0), (0, zR 64), (1, zI b), (2, zI i)]) G dX10_families_11 (by decide) rfl ?_
    refine wp_iconst G dX10_families_12 ?_
    refine wp_istore (lv' := [(4, zI 0), (3, zI 0), (0, zR 64), (1, zI b), (2, zI i)]) G dX10_families_13 (by decide) rfl ?_
    refine wp_lv [2, 3, 4, 1, 0] rfl ?_
    suffices lp15 : ∀ (fu : Nat) (k : Nat) (v3 : Int) (v4 : Int), n - k < fu → (v3 = cntZ (topP pr fa sp q o b (st 3)) k) → (v4 = ((k : Nat) : Int)) → (k ≤ n) → (∀ r, r < k → ¬ (topP pr fa sp q o b (st 3) r ∧ cntZ (topP pr fa sp q o b (st 3)) r = i)) → Wp K 5 (Mx K h (Rt (zI (ansI n q o st pr fa sp b i)) nx []) (0, 0)) (0, 0) 15 [(0, zR 64), (1, zI b), (2, zI i), (3, zI v3), (4, zI v4)] [] (nx, h, []) from lp15 _ 0 0 0 (Nat.lt_succ_self _) (by rfl) (by omega) (by omega) (by intro r hr0; omega)
    intro fu
    induction fu with
    | zero => intro k v3 v4 hm; exact absurd hm (Nat.not_lt_zero _)
    | succ fu ih15 =>
      intro k v3 v4 hm15 e3 e4 hi0 hno
      subst e3
      subst e4
      have hcb := cntZ_r (topP pr fa sp q o b (st 3)) k
      refine wp_iload G 4 dX10_families_15 rfl ?_
      refine wp_aload_n G 0 dX10_families_17 rfl ?_
      refine wp_get G 7 cOk9 fX10_96 dX10_families_18 h64 rfl ?_
      refine wp_icmp_ge G dX10_families_21 (by omega) (by omega) (fun kq2 => ?_) (fun kq2 => ?_)
      · skip
        refine wp_iload_n G 2 dX10_families_77 rfl ?_
        refine wp_iconst G dX10_families_78 ?_
        refine wp_icmp_ne G dX10_families_79 (by omega) (by omega) (fun kq3 => ?_) (fun kq3 => ?_)
        · skip
          refine wp_bipush G dX10_families_86 (by decide) ?_
          exact wp_ireturn G hr dX10_families_88 ⟨by have ek : k = n := (by omega); subst ek; rw [ansI, if_neg (by omega)]; first | (rw [if_pos (by omega)]; done) | (rw [if_neg (by omega), srch_no _ hno]), rfl, by rfl⟩
        · skip
          refine wp_iload_n G 3 dX10_families_82 rfl ?_
          refine wp_goto G dX10_families_83 ?_
          exact wp_ireturn G hr dX10_families_88 ⟨by have ek : k = n := (by omega); subst ek; rw [ansI, if_neg (by omega)]; first | (rw [if_pos (by omega)]; done) | (rw [if_neg (by omega), srch_no _ hno]), rfl, by rfl⟩
      · skip
        have hok := hO.o k (by omega)
        have hli := lik_i (p := k) (r := k) (b := b) hS hO hN3 (by omega)
        refine wp_aload_n G 0 dX10_families_24 rfl ?_
        refine wp_aload_n G 0 dX10_families_25 rfl ?_
        refine wp_get G 9 cOk9 fX10_35 dX10_families_26 h64 rfl ?_
        refine wp_iload G 4 dX10_families_29 rfl ?_
        refine wp_iald (j := k) G dX10_families_31 h73 rfl (by omega) (by decide) ?_
        have rrq1 := hO.o k (by omega)
        refine wp_iconst G dX10_families_32 ?_
        refine wp_iload_n G 1 dX10_families_33 rfl ?_
        refine wp_cVE (b := 64) (ci := 9) (as := [zI ((o k : Nat) : Int), zI (-1), zI b]) (rest := []) (hp2 := (nx, h, [])) G mX10_isCounted lX10_167 iX10_isCounted eX10_isCounted ⟨_, rfl, rfl⟩ dX10_families_34 h64 rfl rfl (Nat.le_of_ble_eq_true rfl) (rmx_ok hR (by decide) (by decide) (by decide) (by decide)) (t_X10_isCounted (nx := nx) (j := (o k)) (a := (-1)) (b := b) hQ hO hN hok (by omega) ri_b) rfl ?_
        refine wp_ifeq_bt G dX10_families_37 (fun kq4 => ?_) (fun kq4 => ?_)
        · skip
          refine wp_iinc (lv' := [(4, zI (((k : Nat) : Int) + 1)), (0, zR 64), (1, zI b), (2, zI i), (3, zI (cntZ (topP pr fa sp q o b (st 3)) k))]) G 4 dX10_families_71 rfl (by decide) rfl ?_
          refine wp_goto G dX10_families_74 ?_
          refine wp_lv [1, 2, 3, 4, 0] rfl ?_
          exact ih15 (k + 1) (cntZ (topP pr fa sp q o b (st 3)) k) (((k : Nat) : Int) + 1) (by omega) (by first | (rw [cntZ_y ⟨by assumption, by omega⟩]; done) | (rw [cntZ_n (fun z => by have z1 := z.1; have z2 := z.2; first | omega | exact absurd z1 (by assumption))])) (by omega) (by omega) (by intro r hr0; rcases Nat.lt_succ_iff_lt_or_eq.mp hr0 with e0 | e0; exact hno r e0; subst e0; intro z; have z1 := z.1.1; have z2 := z.1.2; have z3 := z.2; first | omega | exact absurd z1 (by assumption))
        · skip
          refine wp_aload_n G 0 dX10_families_40 rfl ?_
          refine wp_aload_n G 0 dX10_families_41 rfl ?_
          refine wp_get G 9 cOk9 fX10_35 dX10_families_42 h64 rfl ?_
          refine wp_iload G 4 dX10_families_45 rfl ?_
          refine wp_iald (j := k) G dX10_families_47 h73 rfl (by omega) (by decide) ?_
          have rrq2 := hO.o k (by omega)
          refine wp_iload_n G 1 dX10_families_48 rfl ?_
          refine wp_cVE (b := 64) (ci := 9) (as := [zI ((o k : Nat) : Int), zI b]) (rest := []) (hp2 := (nx, h, [])) G mX10_motherOf lX10_229 iX10_motherOf eX10_motherOf ⟨_, rfl, rfl⟩ dX10_families_49 h64 rfl rfl (Nat.le_of_ble_eq_true rfl) (rmx_ok hR (by decide) (by decide) (by decide) (by decide)) (t_X10_motherOf (nx := nx) (p := k) (b := b) hQ hO hN hMs hS (by omega) ri_b) rfl ?_
          refine wp_if_ge G dX10_families_52 (by omega) (fun kq5 => ?_) (fun kq5 => ?_)
          · skip
            refine wp_iinc (lv' := [(4, zI (((k : Nat) : Int) + 1)), (0, zR 64), (1, zI b), (2, zI i), (3, zI (cntZ (topP pr fa sp q o b (st 3)) k))]) G 4 dX10_families_71 rfl (by decide) rfl ?_
            refine wp_goto G dX10_families_74 ?_
            refine wp_lv [1, 2, 3, 4, 0] rfl ?_
            exact ih15 (k + 1) (cntZ (topP pr fa sp q o b (st 3)) k) (((k : Nat) : Int) + 1) (by omega) (by first | (rw [cntZ_y ⟨by assumption, by omega⟩]; done) | (rw [cntZ_n (fun z => by have z1 := z.1; have z2 := z.2; first | omega | exact absurd z1 (by assumption))])) (by omega) (by omega) (by intro r hr0; rcases Nat.lt_succ_iff_lt_or_eq.mp hr0 with e0 | e0; exact hno r e0; subst e0; intro z; have z1 := z.1.1; have z2 := z.1.2; have z3 := z.2; first | omega | exact absurd z1 (by assumption))
          · skip
            refine wp_iload_n G 3 dX10_families_55 rfl ?_
            refine wp_iload_n G 2 dX10_families_56 rfl ?_
            refine wp_icmp_ne G dX10_families_57 (by omega) (by omega) (fun kq6 => ?_) (fun kq6 => ?_)
            · skip
              refine wp_iinc (lv' := [(3, zI (cntZ (topP pr fa sp q o b (st 3)) k + 1)), (0, zR 64), (1, zI b), (2, zI i), (4, zI ((k : Nat) : Int))]) G 3 dX10_families_68 rfl (by decide) rfl ?_
              refine wp_iinc (lv' := [(4, zI (((k : Nat) : Int) + 1)), (3, zI (cntZ (topP pr fa sp q o b (st 3)) k + 1)), (0, zR 64), (1, zI b), (2, zI i)]) G 4 dX10_families_71 rfl (by decide) rfl ?_
              refine wp_goto G dX10_families_74 ?_
              refine wp_lv [2, 3, 4, 1, 0] rfl ?_
              exact ih15 (k + 1) (cntZ (topP pr fa sp q o b (st 3)) k + 1) (((k : Nat) : Int) + 1) (by omega) (by first | (rw [cntZ_y ⟨by assumption, by omega⟩]; done) | (rw [cntZ_n (fun z => by have z1 := z.1; have z2 := z.2; first | omega | exact absurd z1 (by assumption))])) (by omega) (by omega) (by intro r hr0; rcases Nat.lt_succ_iff_lt_or_eq.mp hr0 with e0 | e0; exact hno r e0; subst e0; intro z; have z1 := z.1.1; have z2 := z.1.2; have z3 := z.2; first | omega | exact absurd z1 (by assumption))
            · skip
              refine wp_aload_n G 0 dX10_families_60 rfl ?_
              refine wp_get G 9 cOk9 fX10_35 dX10_families_61 h64 rfl ?_
              refine wp_iload G 4 dX10_families_64 rfl ?_
              refine wp_iald (j := k) G dX10_families_66 h73 rfl (by omega) (by decide) ?_
              have rrq3 := hO.o k (by omega)
              exact wp_ireturn G hr dX10_families_67 ⟨by rw [ansI, if_neg (by omega), if_neg (by omega), srch_at (k := k) (v := fun r => ((o r : Nat) : Int)) hno ⟨⟨by assumption, by omega⟩, by omega⟩ (Int.natCast_nonneg _) n (by omega)], rfl, by rfl⟩
  · skip
    refine wp_bipush G dX10_families_7 (by decide) ?_
    exact wp_ireturn G hr dX10_families_9 ⟨by rw [ansI, if_pos (by omega)], rfl, by rfl⟩

