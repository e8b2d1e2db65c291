/-! no way is better, and the first of the best is taken -/
theorem fJ_y {X : Nat → Nat → Int} {b : Nat → Int} {i s j : Nat} (h : ¬ (X i j < 0 ∨ s / 2 ^ j % 2 = 1)) : fJ X b i s j = 10000 - X i j + b (s ||| 2 ^ j) := if_neg h
theorem fJ_n {X : Nat → Nat → Int} {b : Nat → Int} {i s j : Nat} (h : X i j < 0 ∨ s / 2 ^ j % 2 = 1) : fJ X b i s j = -1 := if_pos h
theorem vA_free {X : Nat → Nat → Int} {a : Nat → Nat} {ma mb i : Nat} (hv : vA X ma mb a) (hb : mb ≤ 12) (hi : i < ma) (h12 : a i ≠ 12) : a i < mb ∧ ¬ (X i (a i) < 0 ∨ ua a i / 2 ^ (a i) % 2 = 1) := by
  rcases hv.1 i hi with z | z
  · exact absurd z h12
  · refine ⟨z.1, fun y => ?_⟩
    rcases y with y | y
    · have := z.2; omega
    · obtain ⟨k, h1, h2⟩ := (ua_bit h12 i).mp y
      have := hv.2 k i (by omega) hi h2 (by rw [h2]; exact h12)
      omega
theorem vl_le {X : Nat → Nat → Int} {a : Nat → Nat} {ma mb : Nat} (hb : mb ≤ 12) (hv : vA X ma mb a) : ∀ r, r ≤ ma → 10000 * jn a ma r - mn X a ma r ≤ bj X ma mb r (ua a (ma - r))
  | 0, _ => by rw [jn, mn, bj]; decide
  | r + 1, hr => by
    have ih := vl_le hb hv r (by omega)
    have hi : ma - (r + 1) < ma := by omega
    rw [show ma - r = ma - (r + 1) + 1 by omega] at ih
    rw [jn, mn, bj]
    have hj := jmx_b (f := fJ X (bj X ma mb r) (ma - (r + 1)) (ua a (ma - (r + 1)))) (b := bj X ma mb r (ua a (ma - (r + 1)))) mb
    by_cases c : a (ma - (r + 1)) = 12
    · rw [if_pos c, if_pos c]
      rw [ua, if_pos c] at ih
      omega
    · rw [if_neg c, if_neg c]
      rw [ua, if_neg c] at ih
      have hf := vA_free hv hb hi c
      have h1 := hj.2 _ hf.1
      rw [fJ_y hf.2] at h1
      omega
theorem ch_s {X : Nat → Nat → Int} {ma mb i : Nat} (hX : ∀ i j, X i j ≤ 35) (hb : mb ≤ 12) (hi : i < ma) : (ch X ma mb i = 12 ∧ bj X ma mb (ma - i) (us X ma mb i) = bj X ma mb (ma - (i + 1)) (us X ma mb i)) ∨ (ch X ma mb i < mb ∧ ¬ (X i (ch X ma mb i) < 0 ∨ us X ma mb i / 2 ^ (ch X ma mb i) % 2 = 1) ∧ bj X ma mb (ma - i) (us X ma mb i) = 10000 - X i (ch X ma mb i) + bj X ma mb (ma - (i + 1)) (us X ma mb i ||| 2 ^ (ch X ma mb i))) := by
  have hbj := (bj_b (ma := ma) (mb := mb) hX (ma - i) (us X ma mb i)).1
  rcases pk_s (f := fJ X (bj X ma mb (ma - (i + 1))) i (us X ma mb i)) (t := bj X ma mb (ma - i) (us X ma mb i)) mb hb with ⟨h1, h2⟩ | ⟨h1, h2, h3⟩
  · refine Or.inl ⟨h1, ?_⟩
    have e := bj_s (X := X) (mb := mb) (s := us X ma mb i) hi
    rcases jmx_m (f := fJ X (bj X ma mb (ma - (i + 1))) i (us X ma mb i)) (b := bj X ma mb (ma - (i + 1)) (us X ma mb i)) mb with z | ⟨j, y1, y2⟩
    · rw [e]; exact z
    · exact absurd (by rw [y2, ← e]) (h2 j y1)
  · have h1' : ch X ma mb i < mb := h1
    have h2' : fJ X (bj X ma mb (ma - (i + 1))) i (us X ma mb i) (ch X ma mb i) = bj X ma mb (ma - i) (us X ma mb i) := h2
    have hn : ¬ (X i (ch X ma mb i) < 0 ∨ us X ma mb i / 2 ^ (ch X ma mb i) % 2 = 1) := fun z => by
      rw [fJ_n z] at h2'
      omega
    rw [fJ_y hn] at h2'
    exact Or.inr ⟨h1', hn, h2'.symm⟩
theorem us_s {X : Nat → Nat → Int} {ma mb i : Nat} : us X ma mb (i + 1) = if ch X ma mb i = 12 then us X ma mb i else us X ma mb i ||| 2 ^ (ch X ma mb i) := rfl
theorem ch_va {X : Nat → Nat → Int} {ma mb : Nat} (hX : ∀ i j, X i j ≤ 35) (hb : mb ≤ 12) : vA X ma mb (ch X ma mb) := by
  have key : ∀ i, i < ma → ∀ k, k < i → ch X ma mb k = ch X ma mb i → ch X ma mb i = 12 := by
    intro i hi k hk e
    rcases ch_s hX hb hi with ⟨h1, _⟩ | ⟨h1, h2, _⟩
    · exact h1
    · exfalso
      refine h2 (Or.inr ?_)
      rw [← ua_ch]
      exact (ua_bit (j := ch X ma mb i) (by omega) i).mpr ⟨k, hk, e⟩
  refine ⟨fun i hi => ?_, fun i j hi hj e h12 => ?_⟩
  · rcases ch_s hX hb hi with ⟨h1, _⟩ | ⟨h1, h2, _⟩
    · exact Or.inl h1
    · exact Or.inr ⟨h1, Int.not_lt.mp (fun z => h2 (Or.inl z))⟩
  · rcases Nat.lt_trichotomy i j with c | c | c
    · exact absurd (e ▸ key j hj i c e) h12
    · exact c
    · exact absurd (key i hi j c e.symm) h12
theorem vl_ch {X : Nat → Nat → Int} {ma mb : Nat} (hX : ∀ i j, X i j ≤ 35) (hb : mb ≤ 12) : ∀ r, r ≤ ma → 10000 * jn (ch X ma mb) ma r - mn X (ch X ma mb) ma r = bj X ma mb r (us X ma mb (ma - r))
  | 0, _ => by rw [jn, mn, bj]; decide
  | r + 1, hr => by
    have ih := vl_ch (ma := ma) hX hb r (by omega)
    have hi : ma - (r + 1) < ma := by omega
    rw [show ma - r = ma - (r + 1) + 1 by omega, us_s] at ih
    have hs := ch_s hX hb hi
    rw [show ma - (ma - (r + 1)) = r + 1 by omega, show ma - (ma - (r + 1) + 1) = r by omega] at hs
    rw [jn, mn]
    rcases hs with ⟨h1, h2⟩ | ⟨h1, h2, h3⟩
    · rw [if_pos h1] at ih
      rw [if_pos h1, if_pos h1, h2]
      omega
    · have c : ¬ ch X ma mb (ma - (r + 1)) = 12 := by omega
      rw [if_neg c] at ih
      rw [if_neg c, if_neg c, h3]
      omega
/-- what the last r rows cost -/
def vs (X : Nat → Nat → Int) (a : Nat → Nat) (ma r : Nat) : Int := 23298085122481 * (1000 * (((r : Nat) : Int) - jn a ma r) + mn X a ma r) + dg a ma r
theorem ch_best {X : Nat → Nat → Int} {a : Nat → Nat} {ma mb : Nat} (hX : ∀ i j, X i j ≤ 35) (hm : ma ≤ 12) (hb : mb ≤ 12) (hv : vA X ma mb a) : ∀ r, r ≤ ma → ua a (ma - r) = us X ma mb (ma - r) → (∀ i, ma - r ≤ i → i < ma → a i = ch X ma mb i) ∨ vs X (ch X ma mb) ma r < vs X a ma r
  | 0, _, _ => Or.inl (fun i h1 h2 => by omega)
  | r + 1, hr, hu => by
    have hc := ch_va (ma := ma) (mb := mb) hX hb
    have hi : ma - (r + 1) < ma := by omega
    by_cases e : a (ma - (r + 1)) = ch X ma mb (ma - (r + 1))
    · have hu2 : ua a (ma - r) = us X ma mb (ma - r) := by
        rw [show ma - r = ma - (r + 1) + 1 by omega, ua, us_s, hu, e]
      rcases ch_best hX hm hb hv r (by omega) hu2 with z | z
      · refine Or.inl (fun i h1 h2 => ?_)
        by_cases y : i = ma - (r + 1)
        · rw [y]; exact e
        · exact z i (by omega) h2
      · refine Or.inr ?_
        unfold vs at z ⊢
        rw [jn, mn, dg, jn, mn, dg, e]
        omega
    · refine Or.inr ?_
      have A1 := jm_r hX hv (r + 1) hr
      have A2 := jm_r hX hc (r + 1) hr
      have D1 := dg_r hm hb hv (r + 1) hr
      have D2 := dg_r hm hb hc (r + 1) hr
      have L1 := vl_le hb hv (r + 1) hr
      have L2 := vl_ch (ma := ma) hX hb (r + 1) hr
      rw [hu] at L1
      have hS := (dg_b (ma - (r + 1))).2
      have hr12 : ((r + 1 : Nat) : Int) ≤ 12 := by omega
      rcases Int.lt_or_eq_of_le (show 10000 * jn a ma (r + 1) - mn X a ma (r + 1) ≤ 10000 * jn (ch X ma mb) ma (r + 1) - mn X (ch X ma mb) ma (r + 1) by omega) with z | z
      · unfold vs
        generalize jn a ma (r + 1) = j1 at *
        generalize mn X a ma (r + 1) = m1 at *
        generalize jn (ch X ma mb) ma (r + 1) = j2 at *
        generalize mn X (ch X ma mb) ma (r + 1) = m2 at *
        generalize dg a ma (r + 1) = d1 at *
        generalize dg (ch X ma mb) ma (r + 1) = d2 at *
        have : 1000 * (((r + 1 : Nat) : Int) - j2) + m2 + 1 ≤ 1000 * (((r + 1 : Nat) : Int) - j1) + m1 := by omega
        omega
      · have ej : jn a ma (r + 1) = jn (ch X ma mb) ma (r + 1) := by omega
        have em : mn X a ma (r + 1) = mn X (ch X ma mb) ma (r + 1) := by omega
        have hlt : ch X ma mb (ma - (r + 1)) < a (ma - (r + 1)) := by
          by_cases c : a (ma - (r + 1)) = 12
          · rcases ch_s hX hb hi with ⟨h1, _⟩ | ⟨h1, _⟩
            · exact absurd (by rw [c, h1]) e
            · omega
          · have hf := vA_free hv hb hi c
            have K1 := vl_le hb hv r (by omega)
            rw [show ma - r = ma - (r + 1) + 1 by omega, ua, if_neg c, hu] at K1
            rw [hu] at hf
            have K2 := (jmx_b (f := fJ X (bj X ma mb r) (ma - (r + 1)) (us X ma mb (ma - (r + 1)))) (b := bj X ma mb r (us X ma mb (ma - (r + 1)))) mb).2 _ hf.1
            rw [fJ_y hf.2] at K2
            have K3 : bj X ma mb (r + 1) (us X ma mb (ma - (r + 1))) = jmx (fJ X (bj X ma mb r) (ma - (r + 1)) (us X ma mb (ma - (r + 1)))) (bj X ma mb r (us X ma mb (ma - (r + 1)))) mb := rfl
            have K4 : jn a ma (r + 1) = 1 + jn a ma r := by rw [jn, if_neg c]
            have K5 : mn X a ma (r + 1) = X (ma - (r + 1)) (a (ma - (r + 1))) + mn X a ma r := by rw [mn, if_neg c]
            have K6 : fJ X (bj X ma mb r) (ma - (r + 1)) (us X ma mb (ma - (r + 1))) (a (ma - (r + 1))) = bj X ma mb (r + 1) (us X ma mb (ma - (r + 1))) := by
              rw [fJ_y hf.2]
              omega
            have K7 : ch X ma mb (ma - (r + 1)) = pk (fJ X (bj X ma mb r) (ma - (r + 1)) (us X ma mb (ma - (r + 1)))) (bj X ma mb (r + 1) (us X ma mb (ma - (r + 1)))) mb := by
              unfold ch
              rw [show ma - (ma - (r + 1) + 1) = r by omega, show ma - (ma - (r + 1)) = r + 1 by omega]
            rcases pk_s (f := fJ X (bj X ma mb r) (ma - (r + 1)) (us X ma mb (ma - (r + 1)))) (t := bj X ma mb (r + 1) (us X ma mb (ma - (r + 1)))) mb hb with ⟨_, y⟩ | ⟨_, _, y⟩
            · exact absurd K6 (y _ hf.1)
            · rw [← K7] at y
              rcases Nat.lt_trichotomy (ch X ma mb (ma - (r + 1))) (a (ma - (r + 1))) with w | w | w
              · exact w
              · exact absurd w.symm e
              · exact absurd K6 (y _ w)
        have D3 := dg_r hm hb hc r (by omega)
        have D4 := dg_r hm hb hv r (by omega)
        rw [show ma - r = ma - (r + 1) + 1 by omega] at D3
        unfold vs
        rw [ej, em, dg, dg]
        generalize dgP (ma - (r + 1) + 1) = D at *
        have hmul : (((ch X ma mb (ma - (r + 1)) : Nat) : Int) + 1) * ((D : Nat) : Int) ≤ ((a (ma - (r + 1)) : Nat) : Int) * ((D : Nat) : Int) := Int.mul_le_mul_of_nonneg_right (by omega) (by omega)
        rw [Int.add_mul, Int.one_mul] at hmul
        omega
