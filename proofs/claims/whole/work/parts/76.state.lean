theorem hlk_nil (h : Nat → Option PC) : hlk [] h = h := funext fun _ => rfl
theorem hlk_out {l : List (Nat × PC)} {h : Nat → Option PC} (a b : Nat) (hl : l.all (fun x => decide (x.1 < a ∨ b < x.1)) = true) : ∀ k, a ≤ k → k ≤ b → hlk l h k = h k := by
  intro k h1 h2
  induction l with
  | nil => rfl
  | cons x l ih =>
    rw [List.all_cons, Bool.and_eq_true] at hl
    have hx := of_decide_eq_true hl.1
    show (if x.1 = k then some x.2 else hlk l h k) = h k
    rw [if_neg (by omega)]
    exact ih hl.2
theorem hlk_up {l : List (Nat × PC)} {h : Nat → Option PC} (a : Nat) (hl : l.all (fun x => decide (x.1 < a)) = true) : ∀ k, a ≤ k → hlk l h k = h k := by
  intro k h1
  induction l with
  | nil => rfl
  | cons x l ih =>
    rw [List.all_cons, Bool.and_eq_true] at hl
    have hx := of_decide_eq_true hl.1
    show (if x.1 = k then some x.2 else hlk l h k) = h k
    rw [if_neg (by omega)]
    exact ih hl.2
def cA (h : Nat → Option PC) (fc : Nat) (st : Nat → Int) : Prop := h 0 = some (oO 8 [zR 1, zR 2, zR 11, zR 34, zR 36, zR 42, zR 44, zI ((fc : Nat) : Int), zR 45, zR 48]) ∧ h 1 = some (oA 0 5 st)
def cJ (h : Nat → Option PC) : Prop := ∃ (pa mi : Int) (rw_ pt cl : Nat) (u v sl ro be re : Nat → Int) (C0 : Nat → Nat → Int) (A0 B0 : Nat → Int), isJo h pa mi rw_ pt cl u v sl ro be re ∧ (∀ j, j < 25 → re j = 0 ∨ re j = 1) ∧ h 14 = some (oP 3 13 (fun i => some (15 + i))) ∧ (∀ i, i < 13 → h (15 + i) = some (oL 2 25 (C0 i))) ∧ h 12 = some (oA 0 12 A0) ∧ h 13 = some (oA 0 12 B0)
def cT (h : Nat → Option PC) : Prop := ∃ ta : Nat → Int, h 34 = some (oO 0 [zR 35]) ∧ h 35 = some (oA 0 91 ta)
def cO (h : Nat → Option PC) (pr fa sp : Nat → Int) : Prop := ∃ fo de : Nat → Int, isMo h pr fa sp fo de
def cS (h : Nat → Option PC) (sc : Nat) (sg : Nat → Int) : Prop := h 42 = some (oO 7 [zI ((sc : Nat) : Int), zR 43]) ∧ h 43 = some (oA 0 48 sg)
def cF (h : Nat → Option PC) (fc : Nat) (tx : Nat → Nat → Int) (sl : Nat → Nat) : Prop := h 44 = some (oP 5 6 (fcR fc)) ∧ ∀ k, k < fc → isFt h k tx sl
def cW (h : Nat → Option PC) : Prop := ∃ tu su : Nat → Int, h 45 = some (oO 6 [zR 46, zR 47]) ∧ h 46 = some (oA 1 4000 tu) ∧ h 47 = some (oL 2 11 su) ∧ ∀ j, j < 4000 → tu j = 0
def cG (h : Nat → Option PC) (hn : Nat) (hs : Nat → Nat → Int) (kd : Nat → Nat) (dm : Nat → Nat → Int) (ln : Nat) (lw : Nat → Nat → Int) : Prop := ∃ gn : Nat → Int, isG h hn hs kd dm ln lw gn
def mA (h : Nat → Option PC) (n : Nat) (q : Nat → Nat → Int) (o : Nat → Nat) (fc hn ln : Nat) (st : Nat → Int) : Prop := ∃ ma mb : Int, isM h n q o fc hn ln ma mb st
def mT (h : Nat → Option PC) (sm : Nat → Int) (sl : Nat → Nat) : Prop := ∃ ri : Nat → Int, isMt h sm sl ri
def mJ (h : Nat → Option PC) : Prop := ∃ A B J : Nat → Int, isMj h A B J
def LC (h : Nat → Option PC) (n : Nat) (q : Nat → Nat → Int) (o : Nat → Nat) (st : Nat → Int) (fc : Nat) (pr fa sp : Nat → Int) (sc : Nat) (sg : Nat → Int) (tx : Nat → Nat → Int) (sl : Nat → Nat) (hn : Nat) (hs : Nat → Nat → Int) (kd : Nat → Nat) (dm : Nat → Nat → Int) (ln : Nat) (lw : Nat → Nat → Int) : Prop := cA h fc st ∧ isQ h n q o ∧ cJ h ∧ cT h ∧ cO h pr fa sp ∧ cS h sc sg ∧ cF h fc tx sl ∧ cW h ∧ cG h hn hs kd dm ln lw
def LM (h : Nat → Option PC) (n : Nat) (q : Nat → Nat → Int) (o : Nat → Nat) (st : Nat → Int) (fc : Nat) (pr fa sp : Nat → Int) (sm : Nat → Int) (sl : Nat → Nat) (hn : Nat) (hs : Nat → Nat → Int) (kd : Nat → Nat) (dm : Nat → Nat → Int) (ln : Nat) (lw : Nat → Nat → Int) : Prop := mA h n q o fc hn ln st ∧ isMs h pr fa sp ∧ mT h sm sl ∧ isMg h hs kd dm lw ∧ mJ h
def OKA (n : Nat) (q : Nat → Nat → Int) (o : Nat → Nat) (st : Nat → Int) (fc : Nat) (pr fa sp : Nat → Int) (sc : Nat) (sg : Nat → Int) (tx : Nat → Nat → Int) (sm : Nat → Int) (sl : Nat → Nat) (hn : Nat) (hs : Nat → Nat → Int) (kd : Nat → Nat) (dm : Nat → Nat → Int) (ln : Nat) (lw : Nat → Nat → Int) : Prop := okQ n q o ∧ (∀ j, n ≤ j → q 6 j = 0) ∧ okN st ∧ okS pr fa sp ∧ okH hn hs kd ∧ okD dm ∧ okL ln lw ∧ fc ≤ 6 ∧ sc ≤ 48 ∧ (∀ i, i < sc → 33 ≤ sg i ∧ sg i ≤ 126) ∧ sl 6 = sc ∧ (∀ i, i < sc → sm (288 + i) = sg i) ∧ (∀ f, f < 7 → sl f ≤ 48) ∧ okX sm sl tx fc
def LI (nx : Nat) (h : Nat → Option PC) : Prop := ∃ (n : Nat) (q : Nat → Nat → Int) (o : Nat → Nat) (st : Nat → Int) (fc : Nat) (pr fa sp : Nat → Int) (sc : Nat) (sg : Nat → Int) (tx : Nat → Nat → Int) (sm : Nat → Int) (sl : Nat → Nat) (hn : Nat) (hs : Nat → Nat → Int) (kd : Nat → Nat) (dm : Nat → Nat → Int) (ln : Nat) (lw : Nat → Nat → Int), LC h n q o st fc pr fa sp sc sg tx sl hn hs kd dm ln lw ∧ LM h n q o st fc pr fa sp sm sl hn hs kd dm ln lw ∧ OKA n q o st fc pr fa sp sc sg tx sm sl hn hs kd dm ln lw ∧ nx = 93 + 5 * fc
theorem cA_fr {h h2 : Nat → Option PC} {fc : Nat} {st : Nat → Int} (e : ∀ k, 0 ≤ k → k ≤ 1 → h2 k = h k) (H : cA h fc st) : cA h2 fc st := by
  exact ⟨(e 0 (by omega) (by omega)).trans H.1, (e 1 (by omega) (by omega)).trans H.2⟩
theorem isQ_fr {h h2 : Nat → Option PC} {n : Nat} {q : Nat → Nat → Int} {o : Nat → Nat} (e : ∀ k, 2 ≤ k → k ≤ 10 → h2 k = h k) (H : isQ h n q o) : isQ h2 n q o := by
  obtain ⟨a2, a3, a4, a5, a6, a7, a8, a9, a10⟩ := H
  exact ⟨(e 2 (by omega) (by omega)).trans a2, (e 3 (by omega) (by omega)).trans a3, (e 4 (by omega) (by omega)).trans a4, (e 5 (by omega) (by omega)).trans a5, (e 6 (by omega) (by omega)).trans a6, (e 7 (by omega) (by omega)).trans a7, (e 8 (by omega) (by omega)).trans a8, (e 9 (by omega) (by omega)).trans a9, (e 10 (by omega) (by omega)).trans a10⟩
theorem cJ_fr {h h2 : Nat → Option PC}  (e : ∀ k, 11 ≤ k → k ≤ 33 → h2 k = h k) (H : cJ h) : cJ h2 := by
  obtain ⟨pa, mi, rw_, pt, cl, u, v, sl, ro, be, re, C0, A0, B0, ⟨a11, a28, a29, a30, a31, a32, a33⟩, b1, b2, b3, b4, b5⟩ := H
  exact ⟨pa, mi, rw_, pt, cl, u, v, sl, ro, be, re, C0, A0, B0, ⟨(e 11 (by omega) (by omega)).trans a11, (e 28 (by omega) (by omega)).trans a28, (e 29 (by omega) (by omega)).trans a29, (e 30 (by omega) (by omega)).trans a30, (e 31 (by omega) (by omega)).trans a31, (e 32 (by omega) (by omega)).trans a32, (e 33 (by omega) (by omega)).trans a33⟩, b1, (e 14 (by omega) (by omega)).trans b2, fun i hi => (e (15 + i) (by omega) (by omega)).trans (b3 i hi), (e 12 (by omega) (by omega)).trans b4, (e 13 (by omega) (by omega)).trans b5⟩
theorem cT_fr {h h2 : Nat → Option PC}  (e : ∀ k, 34 ≤ k → k ≤ 35 → h2 k = h k) (H : cT h) : cT h2 := by
  obtain ⟨ta, a, b⟩ := H
  exact ⟨ta, (e 34 (by omega) (by omega)).trans a, (e 35 (by omega) (by omega)).trans b⟩
theorem cO_fr {h h2 : Nat → Option PC} {pr fa sp : Nat → Int} (e : ∀ k, 36 ≤ k → k ≤ 41 → h2 k = h k) (H : cO h pr fa sp) : cO h2 pr fa sp := by
  obtain ⟨fo, de, a36, a37, a38, a39, a40, a41⟩ := H
  exact ⟨fo, de, (e 36 (by omega) (by omega)).trans a36, (e 37 (by omega) (by omega)).trans a37, (e 38 (by omega) (by omega)).trans a38, (e 39 (by omega) (by omega)).trans a39, (e 40 (by omega) (by omega)).trans a40, (e 41 (by omega) (by omega)).trans a41⟩
theorem cS_fr {h h2 : Nat → Option PC} {sc : Nat} {sg : Nat → Int} (e : ∀ k, 42 ≤ k → k ≤ 43 → h2 k = h k) (H : cS h sc sg) : cS h2 sc sg := by
  exact ⟨(e 42 (by omega) (by omega)).trans H.1, (e 43 (by omega) (by omega)).trans H.2⟩
theorem isFt_fr {h h2 : Nat → Option PC} {k : Nat} {tx : Nat → Nat → Int} {sl : Nat → Nat} (e : ∀ j, 93 + 5 * k ≤ j → j ≤ 93 + 5 * k + 4 → h2 j = h j) (H : isFt h k tx sl) : isFt h2 k tx sl := by
  obtain ⟨a0, a1, a2, a3, a4⟩ := H
  exact ⟨(e _ (by omega) (by omega)).trans a0, (e _ (by omega) (by omega)).trans a1, (e _ (by omega) (by omega)).trans a2, (e _ (by omega) (by omega)).trans a3, (e _ (by omega) (by omega)).trans a4⟩
theorem cF_fr {h h2 : Nat → Option PC} {fc : Nat} {tx : Nat → Nat → Int} {sl : Nat → Nat} (e1 : h2 44 = h 44) (e2 : ∀ k, 93 ≤ k → h2 k = h k) (H : cF h fc tx sl) : cF h2 fc tx sl := ⟨e1.trans H.1, fun k hk => isFt_fr (fun j h1 _ => e2 j (by omega)) (H.2 k hk)⟩
theorem cW_fr {h h2 : Nat → Option PC}  (e : ∀ k, 45 ≤ k → k ≤ 47 → h2 k = h k) (H : cW h) : cW h2 := by
  obtain ⟨tu, su, a, b, c, d⟩ := H
  exact ⟨tu, su, (e 45 (by omega) (by omega)).trans a, (e 46 (by omega) (by omega)).trans b, (e 47 (by omega) (by omega)).trans c, d⟩
theorem cG_fr {h h2 : Nat → Option PC} {hn : Nat} {hs : Nat → Nat → Int} {kd : Nat → Nat} {dm : Nat → Nat → Int} {ln : Nat} {lw : Nat → Nat → Int} (e : ∀ k, 48 ≤ k → k ≤ 63 → h2 k = h k) (H : cG h hn hs kd dm ln lw) : cG h2 hn hs kd dm ln lw := by
  obtain ⟨gn, a48, a49, a50, a51, a52, a53, a54, a55, a56, a57, a58, a59, a60, a61, a62, a63⟩ := H
  exact ⟨gn, (e 48 (by omega) (by omega)).trans a48, (e 49 (by omega) (by omega)).trans a49, (e 50 (by omega) (by omega)).trans a50, (e 51 (by omega) (by omega)).trans a51, (e 52 (by omega) (by omega)).trans a52, (e 53 (by omega) (by omega)).trans a53, (e 54 (by omega) (by omega)).trans a54, (e 55 (by omega) (by omega)).trans a55, (e 56 (by omega) (by omega)).trans a56, (e 57 (by omega) (by omega)).trans a57, (e 58 (by omega) (by omega)).trans a58, (e 59 (by omega) (by omega)).trans a59, (e 60 (by omega) (by omega)).trans a60, (e 61 (by omega) (by omega)).trans a61, (e 62 (by omega) (by omega)).trans a62, (e 63 (by omega) (by omega)).trans a63⟩
theorem LC_fr {h h2 : Nat → Option PC} {n : Nat} {q : Nat → Nat → Int} {o : Nat → Nat} {st : Nat → Int} {fc : Nat} {pr fa sp : Nat → Int} {sc : Nat} {sg : Nat → Int} {tx : Nat → Nat → Int} {sl : Nat → Nat} {hn : Nat} {hs : Nat → Nat → Int} {kd : Nat → Nat} {dm : Nat → Nat → Int} {ln : Nat} {lw : Nat → Nat → Int} (e : ∀ k, k < 64 ∨ 92 < k → h2 k = h k) (H : LC h n q o st fc pr fa sp sc sg tx sl hn hs kd dm ln lw) : LC h2 n q o st fc pr fa sp sc sg tx sl hn hs kd dm ln lw := by
  obtain ⟨a, b, c, d, f, g, i, j, k⟩ := H
  exact ⟨cA_fr (fun k h1 h2 => e k (by omega)) a, isQ_fr (fun k h1 h2 => e k (by omega)) b, cJ_fr (fun k h1 h2 => e k (by omega)) c, cT_fr (fun k h1 h2 => e k (by omega)) d, cO_fr (fun k h1 h2 => e k (by omega)) f, cS_fr (fun k h1 h2 => e k (by omega)) g, cF_fr (e 44 (by omega)) (fun k h1 => e k (by omega)) i, cW_fr (fun k h1 h2 => e k (by omega)) j, cG_fr (fun k h1 h2 => e k (by omega)) k⟩
theorem LM_fr {h h2 : Nat → Option PC} {n : Nat} {q : Nat → Nat → Int} {o : Nat → Nat} {st : Nat → Int} {fc : Nat} {pr fa sp : Nat → Int} {sm : Nat → Int} {sl : Nat → Nat} {hn : Nat} {hs : Nat → Nat → Int} {kd : Nat → Nat} {dm : Nat → Nat → Int} {ln : Nat} {lw : Nat → Nat → Int} (e : ∀ k, 64 ≤ k → k ≤ 92 → h2 k = h k) (H : LM h n q o st fc pr fa sp sm sl hn hs kd dm ln lw) : LM h2 n q o st fc pr fa sp sm sl hn hs kd dm ln lw := by
  obtain ⟨⟨ma, mb, a64, a65, a66, a67, a68, a69, a70, a71, a72, a73⟩, ⟨a77, a78, a79⟩, ⟨ri, a80, a81, a82⟩, ⟨a83, a84, a85, a86, a87, a88, a89, a90, a91, a92⟩, ⟨A, B, J, a74, a75, a76⟩⟩ := H
  exact ⟨⟨ma, mb, (e 64 (by omega) (by omega)).trans a64, (e 65 (by omega) (by omega)).trans a65, (e 66 (by omega) (by omega)).trans a66, (e 67 (by omega) (by omega)).trans a67, (e 68 (by omega) (by omega)).trans a68, (e 69 (by omega) (by omega)).trans a69, (e 70 (by omega) (by omega)).trans a70, (e 71 (by omega) (by omega)).trans a71, (e 72 (by omega) (by omega)).trans a72, (e 73 (by omega) (by omega)).trans a73⟩, ⟨(e 77 (by omega) (by omega)).trans a77, (e 78 (by omega) (by omega)).trans a78, (e 79 (by omega) (by omega)).trans a79⟩, ⟨ri, (e 80 (by omega) (by omega)).trans a80, (e 81 (by omega) (by omega)).trans a81, (e 82 (by omega) (by omega)).trans a82⟩, ⟨(e 83 (by omega) (by omega)).trans a83, (e 84 (by omega) (by omega)).trans a84, (e 85 (by omega) (by omega)).trans a85, (e 86 (by omega) (by omega)).trans a86, (e 87 (by omega) (by omega)).trans a87, (e 88 (by omega) (by omega)).trans a88, (e 89 (by omega) (by omega)).trans a89, (e 90 (by omega) (by omega)).trans a90, (e 91 (by omega) (by omega)).trans a91, (e 92 (by omega) (by omega)).trans a92⟩, ⟨A, B, J, (e 74 (by omega) (by omega)).trans a74, (e 75 (by omega) (by omega)).trans a75, (e 76 (by omega) (by omega)).trans a76⟩⟩
theorem insP_lt {dd : Nat → Int} {o : Nat → Nat} {d : Int} : ∀ n k, insP dd o d n ≤ k → k < n → d < dd (o k)
  | 0, k, _, h => absurd h (Nat.not_lt_zero _)
  | n + 1, k, h1, h2 => by
    rw [insP] at h1
    split at h1
    · rename_i c
      by_cases e : k = n
      · rw [e]; exact c
      · exact insP_lt n k h1 (by omega)
    · omega
theorem insP_ge {dd : Nat → Int} {o : Nat → Nat} {d : Int} : ∀ n, 0 < insP dd o d n → dd (o (insP dd o d n - 1)) ≤ d
  | 0, h => absurd h (Nat.not_lt_zero _)
  | n + 1, h => by
    rw [insP] at h ⊢
    split at h
    · rename_i c
      rw [if_pos c]
      exact insP_ge n h
    · rename_i c
      rw [if_neg c]
      exact Int.not_lt.mp c
def qN (q : Nat → Nat → Int) (n : Nat) (a d x y g t : Int) : Nat → Nat → Int := fup (fup (fup (fup (fup (fup (fup q 0 (fup (q 0) n a)) 1 (fup (q 1) n d)) 2 (fup (q 2) n x)) 3 (fup (q 3) n y)) 4 (fup (q 4) n g)) 5 (fup (q 5) n t)) 6 (fup (q 6) n 0)
theorem qN_ne {q : Nat → Nat → Int} {n : Nat} {a d x y g t : Int} {j : Nat} (h : j ≠ n) (c : Nat) (hc : c < 7) : qN q n a d x y g t c j = q c j := by
  rcases (show c = 0 ∨ c = 1 ∨ c = 2 ∨ c = 3 ∨ c = 4 ∨ c = 5 ∨ c = 6 by omega) with rfl | rfl | rfl | rfl | rfl | rfl | rfl <;> exact fup_ne _ _ h
theorem okQ_new {n : Nat} {q : Nat → Nat → Int} {o : Nat → Nat} {a d x y g t : Int} (hO : okQ n q o) (hn : n < 40) (h1 : (0 ≤ a ∧ a ≤ 2) ∧ (0 ≤ x ∧ x ≤ 15) ∧ (0 ≤ y ∧ y ≤ 15)) (h2 : (0 ≤ d ∧ d ≤ 3999) ∧ (0 ≤ g ∧ g ≤ 90) ∧ (d ≤ t ∧ t ≤ 3999)) : okQ (n + 1) (qN q n a d x y g t) (insO (fup (q 1) n d) o (fup (q 1) n d n) n) := by
  have e0 : qN q n a d x y g t 0 n = a := fup_self _ _ _
  have e1 : qN q n a d x y g t 1 n = d := fup_self _ _ _
  have e2 : qN q n a d x y g t 2 n = x := fup_self _ _ _
  have e3 : qN q n a d x y g t 3 n = y := fup_self _ _ _
  have e4 : qN q n a d x y g t 4 n = g := fup_self _ _ _
  have e5 : qN q n a d x y g t 5 n = t := fup_self _ _ _
  have e6 : qN q n a d x y g t 6 n = 0 := fup_self _ _ _
  refine ⟨by omega, fun j hj => ?_, ?_⟩
  · by_cases e : j = n
    · subst e
      unfold okJ
      rw [e0, e1, e2, e3, e4, e5, e6]
      exact ⟨h1.1, h2.1, h1.2.1, h1.2.2, h2.2.1, h2.2.2, Or.inl rfl⟩
    · have := hO.2.1 j (by omega)
      unfold okJ at this ⊢
      rw [qN_ne e 0 (by decide), qN_ne e 1 (by decide), qN_ne e 2 (by decide), qN_ne e 3 (by decide), qN_ne e 4 (by decide), qN_ne e 5 (by decide), qN_ne e 6 (by decide)]
      exact this
  · rw [fup_self]
    have hP := insP_le (fup (q 1) n d) o d n
    have hlt := insP_lt (dd := fup (q 1) n d) (o := o) (d := d) n
    have hge := insP_ge (dd := fup (q 1) n d) (o := o) (d := d) n
    have hat : ∀ p, insO (fup (q 1) n d) o d n p = if p = insP (fup (q 1) n d) o d n then n else if insP (fup (q 1) n d) o d n < p ∧ p ≤ n then o (p - 1) else o p := fun p => rfl
    generalize insP (fup (q 1) n d) o d n = P at hP hlt hge hat
    have hdd : ∀ i, i < n → fup (q 1) n d (o i) = q 1 (o i) := fun i hi => fup_ne _ _ (by have := hO.o i hi; omega)
    have hold : ∀ i j, i < j → j < n → ahd (qN q n a d x y g t) (o i) (o j) := fun i j hi hj => by
      have h3 := hO.2.2.2.1 i j hi hj
      unfold ahd at h3 ⊢
      rw [qN_ne (by have := hO.o i (by omega); omega) 1 (by decide), qN_ne (by have := hO.o j hj; omega) 1 (by decide)]
      exact h3
    refine ⟨fun p hp => ?_, fun p r hpr hr => ?_, fun j hj => ?_⟩
    · rw [hat]
      split
      · omega
      · split
        · have := hO.o (p - 1) (by omega); omega
        · have := hO.o p (by omega); omega
    · rw [hat p, hat r]
      by_cases c1 : p = P
      · rw [if_pos c1, if_neg (by omega), if_pos (by omega)]
        have h3 := hlt (r - 1) (by omega) (by omega)
        rw [hdd _ (by omega)] at h3
        refine Or.inl ?_
        rw [e1, qN_ne (by have := hO.o (r - 1) (by omega); omega) 1 (by decide)]
        exact h3
      · rw [if_neg c1]
        by_cases c2 : r = P
        · rw [if_pos c2, if_neg (by omega)]
          have h3 := hge (by omega)
          rw [hdd _ (by omega)] at h3
          have h4 : q 1 (o p) ≤ q 1 (o (P - 1)) := by
            by_cases e : p = P - 1
            · rw [e]; exact Int.le_refl _
            · rcases hO.2.2.2.1 p (P - 1) (by omega) (by omega) with z | z <;> omega
          have h5 := hO.o p (by omega)
          unfold ahd
          rw [e1, qN_ne (by omega) 1 (by decide)]
          omega
        · rw [if_neg c2]
          by_cases c3 : P < p
          · rw [if_pos (by omega), if_pos (by omega)]
            exact hold _ _ (by omega) (by omega)
          · rw [if_neg (by omega)]
            by_cases c4 : P < r
            · rw [if_pos (by omega)]
              exact hold _ _ (by omega) (by omega)
            · rw [if_neg (by omega)]
              exact hold _ _ (by omega) (by omega)
    · by_cases e : j = n
      · exact ⟨P, by omega, by rw [hat, if_pos rfl, e]⟩
      · obtain ⟨p, hp, rfl⟩ := hO.2.2.2.2 j (by omega)
        by_cases c : p < P
        · exact ⟨p, by omega, by rw [hat, if_neg (by omega), if_neg (by omega)]⟩
        · exact ⟨p + 1, by omega, by rw [hat, if_neg (by omega), if_pos (by omega), Nat.add_sub_cancel]⟩
theorem okQ_bl {n : Nat} {q : Nat → Nat → Int} {o : Nat → Nat} {j : Nat} {b : Int} (hO : okQ n q o) (hb : b = 0 ∨ b = 1) : okQ n (fup q 6 (fup (q 6) j b)) o := by
  refine ⟨hO.1, fun i hi => ?_, hO.2.2⟩
  obtain ⟨a0, a1, a2, a3, a4, a5, a6⟩ := hO.2.1 i hi
  refine ⟨a0, a1, a2, a3, a4, a5, ?_⟩
  show fup (q 6) j b i = 0 ∨ fup (q 6) j b i = 1
  by_cases e : i = j
  · rw [e, fup_self]; exact hb
  · rw [fup_ne _ _ e]; exact a6
theorem okQ_me {n : Nat} {q : Nat → Nat → Int} {o : Nat → Nat} {j : Nat} {b : Int} (hO : okQ n q o) (hb : 0 ≤ b ∧ b ≤ 90) : okQ n (fup q 4 (fup (q 4) j b)) o := by
  refine ⟨hO.1, fun i hi => ?_, hO.2.2⟩
  obtain ⟨a0, a1, a2, a3, a4, a5, a6⟩ := hO.2.1 i hi
  refine ⟨a0, a1, a2, a3, ?_, a5, a6⟩
  show 0 ≤ fup (q 4) j b i ∧ fup (q 4) j b i ≤ 90
  by_cases e : i = j
  · rw [e, fup_self]; exact hb
  · rw [fup_ne _ _ e]; exact a4
theorem okN_up {st : Nat → Int} {j : Nat} {b : Int} (h : okN st) (hj : j < 5) (h1 : leZ j ≤ b) (h2 : b ≤ moZ j) : okN (fup st j b) := by
  obtain ⟨a0, a1, a2, a3, a4⟩ := h
  rcases (show j = 0 ∨ j = 1 ∨ j = 2 ∨ j = 3 ∨ j = 4 by omega) with rfl | rfl | rfl | rfl | rfl
  · exact ⟨⟨h1, h2⟩, a1, a2, a3, a4⟩
  · exact ⟨a0, ⟨h1, h2⟩, a2, a3, a4⟩
  · exact ⟨a0, a1, ⟨h1, h2⟩, a3, a4⟩
  · exact ⟨a0, a1, a2, ⟨h1, h2⟩, a4⟩
  · exact ⟨a0, a1, a2, a3, ⟨h1, h2⟩⟩
theorem fup_b {f : Nat → Int} {j N : Nat} {b lo hi : Int} (h : ∀ k, k < N → lo ≤ f k ∧ f k ≤ hi) (hb : lo ≤ b ∧ b ≤ hi) : ∀ k, k < N → lo ≤ fup f j b k ∧ fup f j b k ≤ hi := by
  intro k hk
  by_cases e : k = j
  · rw [e, fup_self]; exact hb
  · rw [fup_ne _ _ e]; exact h k hk
theorem fup_n {f : Nat → Int} {N : Nat} {b lo hi : Int} (h : ∀ k, k < N → lo ≤ f k ∧ f k ≤ hi) (hb : lo ≤ b ∧ b ≤ hi) : ∀ k, k < N + 1 → lo ≤ fup f N b k ∧ fup f N b k ≤ hi := by
  intro k hk
  by_cases e : k = N
  · rw [e, fup_self]; exact hb
  · rw [fup_ne _ _ e]; exact h k (by omega)
theorem sl_up (sl : Nat → Nat) (j v : Nat) : fup (fun f => ((sl f : Nat) : Int)) j ((v : Nat) : Int) = fun f => ((fup sl j v f : Nat) : Int) := by
  funext f
  by_cases e : f = j
  · rw [e, fup_self, fup_self]
  · rw [fup_ne _ _ e, fup_ne _ _ e]
theorem fcR_up (k : Nat) : fup (fcR k) k (some (93 + 5 * k)) = fcR (k + 1) := by
  funext j
  unfold fcR
  by_cases e : j = k
  · rw [e, fup_self, if_pos (by omega)]
  · rw [fup_ne _ _ e]
    by_cases c : j < k
    · rw [if_pos c, if_pos (by omega)]
    · rw [if_neg c, if_neg (by omega)]
theorem dm_up {dm : Nat → Nat → Int} {c s : Nat} {v : Int} (hs : s < 10) : fup (fun t => dm (t / 10) (t % 10)) (10 * c + s) v = fun t => fup dm c (fup (dm c) s v) (t / 10) (t % 10) := by
  funext t
  by_cases e : t = 10 * c + s
  · rw [e, fup_self, show (10 * c + s) / 10 = c by omega, show (10 * c + s) % 10 = s by omega, fup_self, fup_self]
  · rw [fup_ne _ _ e]
    by_cases e1 : t / 10 = c
    · rw [e1, fup_self, fup_ne _ _ (by omega)]
    · rw [fup_ne dm _ e1]
theorem okD_up {dm : Nat → Nat → Int} {c s : Nat} {v : Int} (h : okD dm) (hv : 0 ≤ v ∧ v ≤ 100) : okD (fup dm c (fup (dm c) s v)) := by
  intro k hk i hi
  by_cases e : k = c
  · rw [e, fup_self]
    exact fup_b (h c (by omega)) hv i hi
  · rw [fup_ne _ _ e]
    exact h k hk i hi
theorem isFt_sl {h : Nat → Option PC} {k : Nat} {tx tx2 : Nat → Nat → Int} {sl sl2 : Nat → Nat} (H : isFt h k tx sl) (e1 : tx2 k = tx k) (e2 : sl2 k = sl k) : isFt h k tx2 sl2 := by
  unfold isFt
  rw [e1, e2]
  exact H
