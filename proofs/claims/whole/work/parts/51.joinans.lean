def ansJ (n : Nat) (q : Nat → Nat → Int) (st : Nat → Int) (a b x : Int) : Int :=
  if ¬ ((0 ≤ a ∧ a ≤ 2) ∧ (0 ≤ b ∧ b ≤ 2) ∧ a ≠ b ∧ (x = -1 ∨ x = -2 ∨ ((0 ≤ x ∧ x < ((n : Nat) : Int)) ∧ q 0 x.toNat = a))) then -1
  else if 12 < cN q a n ∨ 12 < cN q b n then -5
  else if x = -1 then jn (ch (XJ q st (nthL q a n) (nthL q b n)) (cN q a n) (cN q b n)) (cN q a n) (cN q a n)
  else if x = -2 then mn (XJ q st (nthL q a n) (nthL q b n)) (ch (XJ q st (nthL q a n) (nthL q b n)) (cN q a n) (cN q b n)) (cN q a n) (cN q a n)
  else if ch (XJ q st (nthL q a n) (nthL q b n)) (cN q a n) (cN q b n) (cN q a x.toNat) = 12 then -6
  else ((nthL q b n (ch (XJ q st (nthL q a n) (nthL q b n)) (cN q a n) (cN q b n) (cN q a x.toNat)) : Nat) : Int)
theorem ansJ_1 {n : Nat} {q : Nat → Nat → Int} {st : Nat → Int} {a b x : Int} (h : ¬ ((0 ≤ a ∧ a ≤ 2) ∧ (0 ≤ b ∧ b ≤ 2) ∧ a ≠ b ∧ (x = -1 ∨ x = -2 ∨ ((0 ≤ x ∧ x < ((n : Nat) : Int)) ∧ q 0 x.toNat = a)))) : ansJ n q st a b x = -1 := if_pos h
theorem ansJ_5 {n : Nat} {q : Nat → Nat → Int} {st : Nat → Int} {a b x : Int} (h : (0 ≤ a ∧ a ≤ 2) ∧ (0 ≤ b ∧ b ≤ 2) ∧ a ≠ b ∧ (x = -1 ∨ x = -2 ∨ ((0 ≤ x ∧ x < ((n : Nat) : Int)) ∧ q 0 x.toNat = a))) (h2 : 12 < cN q a n ∨ 12 < cN q b n) : ansJ n q st a b x = -5 := by
  unfold ansJ
  rw [if_neg (fun z => z h), if_pos h2]
theorem ansJ_a {n : Nat} {q : Nat → Nat → Int} {st : Nat → Int} {a b x : Int} (h : (0 ≤ a ∧ a ≤ 2) ∧ (0 ≤ b ∧ b ≤ 2) ∧ a ≠ b ∧ (x = -1 ∨ x = -2 ∨ ((0 ≤ x ∧ x < ((n : Nat) : Int)) ∧ q 0 x.toNat = a))) (h2 : ¬ (12 < cN q a n ∨ 12 < cN q b n)) (hx : x = -1) : ansJ n q st a b x = jn (ch (XJ q st (nthL q a n) (nthL q b n)) (cN q a n) (cN q b n)) (cN q a n) (cN q a n) := by
  unfold ansJ
  rw [if_neg (fun z => z h), if_neg h2, if_pos hx]
theorem ansJ_b {n : Nat} {q : Nat → Nat → Int} {st : Nat → Int} {a b x : Int} (h : (0 ≤ a ∧ a ≤ 2) ∧ (0 ≤ b ∧ b ≤ 2) ∧ a ≠ b ∧ (x = -1 ∨ x = -2 ∨ ((0 ≤ x ∧ x < ((n : Nat) : Int)) ∧ q 0 x.toNat = a))) (h2 : ¬ (12 < cN q a n ∨ 12 < cN q b n)) (hx : x = -2) : ansJ n q st a b x = mn (XJ q st (nthL q a n) (nthL q b n)) (ch (XJ q st (nthL q a n) (nthL q b n)) (cN q a n) (cN q b n)) (cN q a n) (cN q a n) := by
  unfold ansJ
  rw [if_neg (fun z => z h), if_neg h2, if_neg (by omega), if_pos hx]
theorem ansJ_c {n : Nat} {q : Nat → Nat → Int} {st : Nat → Int} {a b x : Int} (h : (0 ≤ a ∧ a ≤ 2) ∧ (0 ≤ b ∧ b ≤ 2) ∧ a ≠ b ∧ (x = -1 ∨ x = -2 ∨ ((0 ≤ x ∧ x < ((n : Nat) : Int)) ∧ q 0 x.toNat = a))) (h2 : ¬ (12 < cN q a n ∨ 12 < cN q b n)) (hx : 0 ≤ x) : ansJ n q st a b x = if ch (XJ q st (nthL q a n) (nthL q b n)) (cN q a n) (cN q b n) (cN q a x.toNat) = 12 then -6 else ((nthL q b n (ch (XJ q st (nthL q a n) (nthL q b n)) (cN q a n) (cN q b n) (cN q a x.toNat)) : Nat) : Int) := by
  unfold ansJ
  rw [if_neg (fun z => z h), if_neg h2, if_neg (by omega), if_neg (by omega)]
def pkI (p : Nat) : Int := if p = 12 then -6 else ((p : Nat) : Int)
theorem pkI_y {p : Nat} (h : 0 ≤ pkI p) : pkI p = ((p : Nat) : Int) := by
  unfold pkI at h ⊢
  split at h
  · exact absurd h (by decide)
  · rename_i e; rw [if_neg e]
theorem pk_stay {f : Nat → Int} {t : Int} {j : Nat} (h : pk f t j ≠ 12) : ∀ k, j ≤ k → pk f t k = pk f t j
  | 0, hk => by rw [show j = 0 by omega]
  | k + 1, hk => by
    by_cases e : j = k + 1
    · rw [e]
    · have ih := pk_stay h k (by omega)
      rw [pk, if_neg (fun z => h (by rw [← ih]; exact z.1))]
      exact ih
theorem us_lt {X : Nat → Nat → Int} {ma mb : Nat} (hb : mb ≤ 12) : ∀ i, us X ma mb i < 2 ^ mb
  | 0 => Nat.pow_pos (by decide)
  | i + 1 => by
    have ih := us_lt (X := X) (ma := ma) hb i
    rw [us_s]
    split
    · exact ih
    · rename_i c
      refine or_lt ih ?_
      rcases pk_s (f := fJ X (bj X ma mb (ma - (i + 1))) i (us X ma mb i)) (t := bj X ma mb (ma - i) (us X ma mb i)) mb hb with ⟨h, _⟩ | ⟨h, _⟩
      · exact absurd h c
      · exact h
/-- the class's partner is the reference's -/
theorem join_part {X : Nat → Nat → Int} {n ma mb : Nat} {q : Nat → Nat → Int} {a b : Int} {m : Nat → Nat} {x : Nat} (hX : ∀ i j, X i j ≤ 35) (hb : mb ≤ 12) (hma : ma = cN q a n) (hle : ∀ c, c < mb → m (c + 1) ≤ ma) (hj : ∀ i c, i < ma → c < mb → (m (c + 1) = i + 1 ↔ ch X ma mb i = c)) (hx : x < n) (hq : q 0 x = a) : srch (fun c => m (c + 1) ≠ 0 ∧ ((nthL q a n (m (c + 1) - 1) : Nat) : Int) = ((x : Nat) : Int)) (fun c => ((nthL q b n c : Nat) : Int)) mb = if ch X ma mb (cN q a x) = 12 then -6 else ((nthL q b n (ch X ma mb (cN q a x)) : Nat) : Int) := by
  have hi : cN q a x < ma := by rw [hma]; exact cN_lt hq hx
  have hv := ch_va (ma := ma) (mb := mb) hX hb
  have hin : ∀ c, c < mb → (m (c + 1) ≠ 0 ∧ ((nthL q a n (m (c + 1) - 1) : Nat) : Int) = ((x : Nat) : Int) ↔ ch X ma mb (cN q a x) = c) := by
    intro c hc
    have hl := hle c hc
    constructor
    · rintro ⟨h1, h2⟩
      have h3 := nth_ok (q := q) (a := a) (i := m (c + 1) - 1) n (by omega)
      have h4 : nthL q a n (m (c + 1) - 1) = x := by omega
      rw [h4] at h3
      exact (hj _ c hi hc).mp (by have := h3.2.2; omega)
    · intro e
      have h1 := (hj _ c hi hc).mpr e
      refine ⟨by omega, ?_⟩
      rw [h1, Nat.add_sub_cancel]
      have h3 := nth_ok (q := q) (a := a) (i := cN q a x) n (by omega)
      have : nthL q a n (cN q a x) = x := by
        rcases Nat.lt_trichotomy (nthL q a n (cN q a x)) x with z | z | z
        · have := cN_lt h3.2.1 z; omega
        · exact z
        · have := cN_lt hq z; omega
      rw [this]
  rcases hv.1 _ hi with z | z
  · rw [if_pos z, srch_no mb (fun c hc y => by have := (hin c hc).mp y; omega)]
  · have z1 := z.1
    rw [if_neg (by omega), srch_at (v := fun c => ((nthL q b n c : Nat) : Int)) (fun c hc y => by have := (hin c (by omega)).mp y; omega) ((hin _ z1).mpr rfl) (Int.natCast_nonneg _) mb z1]
theorem cN_cnt {q : Nat → Nat → Int} {a : Int} : ∀ n, cntZ (fun j => q 0 j = a) n = ((cN q a n : Nat) : Int)
  | 0 => rfl
  | n + 1 => by
    by_cases c : q 0 n = a
    · rw [cntZ_y (by exact c), cN_cnt n, cN_y c]; rfl
    · rw [cntZ_n (by exact c), cN_cnt n, cN_n c]
