/-! how many are joined, and what they miss in all -/
theorem sum_swap {G : Nat → Nat → Int} {ma : Nat} : ∀ mb, sumZ (fun c => sumZ (fun i => G i c) ma) mb = sumZ (fun i => sumZ (fun c => G i c) mb) ma
  | 0 => by
    rw [sum_nul (f := fun i => sumZ (fun c => G i c) 0) ma (fun _ _ => rfl)]
    rfl
  | mb + 1 => by
    have ih := sum_swap (G := G) (ma := ma) mb
    rw [sumZ, ih, ← sum_add]
    rfl
theorem join_sum {X : Nat → Nat → Int} {ma mb : Nat} {m : Nat → Nat} (hX : ∀ i j, X i j ≤ 35) (hb : mb ≤ 12) (hle : ∀ c, c < mb → m (c + 1) ≤ ma) (hj : ∀ i c, i < ma → c < mb → (m (c + 1) = i + 1 ↔ ch X ma mb i = c)) (w : Nat → Nat → Int) : sumZ (fun c => ifZ (m (c + 1) ≠ 0) (w (m (c + 1) - 1) c) 0) mb = sumZ (fun i => ifZ (ch X ma mb i ≠ 12) (w i (ch X ma mb i)) 0) ma := by
  have hv := ch_va (ma := ma) (mb := mb) hX hb
  have a : sumZ (fun c => ifZ (m (c + 1) ≠ 0) (w (m (c + 1) - 1) c) 0) mb = sumZ (fun c => sumZ (fun i => ifZ (ch X ma mb i = c) (w i c) 0) ma) mb := by
    refine sumZ_congr mb (fun c hc => ?_)
    show ifZ (m (c + 1) ≠ 0) (w (m (c + 1) - 1) c) 0 = sumZ (fun i => ifZ (ch X ma mb i = c) (w i c) 0) ma
    have hl := hle c hc
    by_cases z : m (c + 1) = 0
    · rw [ifZ_n (fun y => y z), sum_nul ma (fun i hi => ifZ_n (fun y => by have := (hj i c hi hc).mpr y; omega))]
    · have hi : m (c + 1) - 1 < ma := by omega
      have e := (hj (m (c + 1) - 1) c hi hc).mp (by omega)
      rw [ifZ_y z, sum_pt (j := m (c + 1) - 1) ma hi (fun i hi2 hne => ifZ_n (fun y => by have := (hj i c hi2 hc).mpr y; omega))]
      exact (ifZ_y e).symm
  have b : sumZ (fun i => ifZ (ch X ma mb i ≠ 12) (w i (ch X ma mb i)) 0) ma = sumZ (fun i => sumZ (fun c => ifZ (ch X ma mb i = c) (w i c) 0) mb) ma := by
    refine sumZ_congr ma (fun i hi => ?_)
    show ifZ (ch X ma mb i ≠ 12) (w i (ch X ma mb i)) 0 = sumZ (fun c => ifZ (ch X ma mb i = c) (w i c) 0) mb
    rcases hv.1 i hi with z | z
    · rw [ifZ_n (fun y => y z), sum_nul mb (fun c hc => ifZ_n (fun y => by omega))]
    · have z1 := z.1
      rw [ifZ_y (by omega), sum_pt (j := ch X ma mb i) mb z1 (fun c hc hne => ifZ_n (fun y => hne y.symm))]
      exact (ifZ_y rfl).symm
  rw [a, b, sum_swap]
theorem jn_sum {a : Nat → Nat} {ma : Nat} : ∀ r, r ≤ ma → sumZ (fun i => ifZ (a i ≠ 12) 1 0) ma = sumZ (fun i => ifZ (a i ≠ 12) 1 0) (ma - r) + jn a ma r
  | 0, _ => by rw [jn, Nat.sub_zero]; omega
  | r + 1, hr => by
    have ih := jn_sum (a := a) (ma := ma) r (by omega)
    rw [show ma - r = ma - (r + 1) + 1 by omega, sumZ] at ih
    rw [ih, jn]
    by_cases c : a (ma - (r + 1)) = 12
    · rw [if_pos c, ifZ_n (fun y => y c)]; omega
    · rw [if_neg c, ifZ_y c]; omega
theorem mn_sum {X : Nat → Nat → Int} {a : Nat → Nat} {ma : Nat} : ∀ r, r ≤ ma → sumZ (fun i => ifZ (a i ≠ 12) (X i (a i)) 0) ma = sumZ (fun i => ifZ (a i ≠ 12) (X i (a i)) 0) (ma - r) + mn X a ma r
  | 0, _ => by rw [mn, Nat.sub_zero]; omega
  | r + 1, hr => by
    have ih := mn_sum (X := X) (a := a) (ma := ma) r (by omega)
    rw [show ma - r = ma - (r + 1) + 1 by omega, sumZ] at ih
    rw [ih, mn]
    by_cases c : a (ma - (r + 1)) = 12
    · rw [if_pos c, ifZ_n (fun y => y c)]; omega
    · rw [if_neg c, ifZ_y c]; omega
theorem cnt_sumI {P : Nat → Prop} : ∀ k, cntZ P k = sumZ (fun c => ifZ (P c) 1 0) k
  | 0 => rfl
  | k + 1 => by
    rw [cntZ, cnt_sumI k, sumZ]
    by_cases c : P k
    · rw [bt_1 c, ifZ_y c]
    · rw [bt_0 c, ifZ_n c]
theorem ms_mQ {q : Nat → Nat → Int} {st : Nat → Int} {i j : Nat} (h : 0 ≤ msZ q st i j) : mQ q i j = msZ q st i j := by
  by_cases w : (if 0 ≤ (q 1 i - q 1 j) then (q 1 i - q 1 j) else -(q 1 i - q 1 j)) ≤ st 0 ∧ (farZ (q 2 i) (q 3 i) (q 2 j) (q 3 j)) ≤ st 1 ∧ (if 0 ≤ (q 4 i - q 4 j) then (q 4 i - q 4 j) else -(q 4 i - q 4 j)) ≤ st 2
  · exact (ms_y w).symm
  · rw [ms_n w] at h; exact absurd h (by decide)
/-- the class's two numbers are the reference's -/
theorem join_nums {q : Nat → Nat → Int} {st : Nat → Int} {la lb : Nat → Nat} {ma mb : Nat} {m : Nat → Nat} (hN : okN st) (hb : mb ≤ 12) (hle : ∀ c, c < mb → m (c + 1) ≤ ma) (hj : ∀ i c, i < ma → c < mb → (m (c + 1) = i + 1 ↔ ch (XJ q st la lb) ma mb i = c)) :
    cntZ (fun c => m (c + 1) ≠ 0) mb = jn (ch (XJ q st la lb) ma mb) ma ma ∧ sumZ (fun c => ifZ (m (c + 1) ≠ 0) (mQ q (la (m (c + 1) - 1)) (lb c)) 0) mb = mn (XJ q st la lb) (ch (XJ q st la lb) ma mb) ma ma := by
  have hX : ∀ i j, XJ q st la lb i j ≤ 35 := fun i j => (XJ_b hN i j).2
  have hv := ch_va (ma := ma) (mb := mb) hX hb
  constructor
  · rw [cnt_sumI, join_sum hX hb hle hj (fun _ _ => 1), jn_sum ma (Nat.le_refl _), Nat.sub_self, sumZ]
    omega
  · rw [join_sum hX hb hle hj (fun i c => mQ q (la i) (lb c))]
    have e : sumZ (fun i => ifZ (ch (XJ q st la lb) ma mb i ≠ 12) (mQ q (la i) (lb (ch (XJ q st la lb) ma mb i))) 0) ma = sumZ (fun i => ifZ (ch (XJ q st la lb) ma mb i ≠ 12) (XJ q st la lb i (ch (XJ q st la lb) ma mb i)) 0) ma := by
      refine sumZ_congr ma (fun i hi => ?_)
      show ifZ (ch (XJ q st la lb) ma mb i ≠ 12) (mQ q (la i) (lb (ch (XJ q st la lb) ma mb i))) 0 = ifZ (ch (XJ q st la lb) ma mb i ≠ 12) (XJ q st la lb i (ch (XJ q st la lb) ma mb i)) 0
      rcases hv.1 i hi with z | z
      · rw [ifZ_n (fun y => y z), ifZ_n (fun y => y z)]
      · have z1 := z.1
        have z2 := z.2
        rw [ifZ_y (by omega), ifZ_y (by omega)]
        exact ms_mQ z2
    rw [e, mn_sum ma (Nat.le_refl _), Nat.sub_self, sumZ]
    omega
