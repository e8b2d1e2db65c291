/-! one more column reached -/
def HL (C : Nat → Nat → Int) (rw_ cl : Nat) (u v : Nat → Int) (rn : Nat → Nat) (re sl be : Nat → Int) (w T : Nat) (rk : Nat → Nat) : Prop := (HP C rw_ cl u v rn) ∧ (w ≤ cl) ∧ (re w = 0) ∧ (∀ j, j ≤ cl → re j = 0 ∨ re j = 1) ∧ (∀ j, j ≤ cl → re j = 1 → rn j ≠ 0 ∧ rk j < T) ∧ (T = 0 → w = 0 ∧ ∀ j, j ≤ cl → re j = 0 ∧ sl j = 4000000000000000000) ∧ (0 < T → w ≠ 0 ∧ re 0 = 1 ∧ sl w = 0) ∧ (∀ j, j ≤ cl → 0 ≤ be j ∧ be j ≤ ((cl : Nat) : Int)) ∧ (∀ k, k ≤ cl → re k = 1 → k ≠ 0 → re (be k).toNat = 1 ∧ rk (be k).toNat < rk k ∧ u (rn (be k).toNat) + v k = C (rn (be k).toNat) k) ∧ (0 < T → ∀ j, 1 ≤ j → j ≤ cl → re j = 0 → re (be j).toNat = 1 ∧ sl j = C (rn (be j).toNat) j - u (rn (be j).toNat) - v j) ∧ (0 < T → ∀ j k, 1 ≤ j → j ≤ cl → re j = 0 → k ≤ cl → re k = 1 → sl j ≤ C (rn k) j - u (rn k) - v j) ∧ (cntZ (fun j => re j = 1) (cl + 1) = ((T : Nat) : Int))
theorem HL.pr {C : Nat → Nat → Int} {rw_ cl : Nat} {u v : Nat → Int} {rn : Nat → Nat} {re sl be : Nat → Int} {w T : Nat} {rk : Nat → Nat} (h : HL C rw_ cl u v rn re sl be w T rk) : HP C rw_ cl u v rn := h.1
theorem HL.wl {C : Nat → Nat → Int} {rw_ cl : Nat} {u v : Nat → Int} {rn : Nat → Nat} {re sl be : Nat → Int} {w T : Nat} {rk : Nat → Nat} (h : HL C rw_ cl u v rn re sl be w T rk) : w ≤ cl := h.2.1
theorem HL.wr {C : Nat → Nat → Int} {rw_ cl : Nat} {u v : Nat → Int} {rn : Nat → Nat} {re sl be : Nat → Int} {w T : Nat} {rk : Nat → Nat} (h : HL C rw_ cl u v rn re sl be w T rk) : re w = 0 := h.2.2.1
theorem HL.bb {C : Nat → Nat → Int} {rw_ cl : Nat} {u v : Nat → Int} {rn : Nat → Nat} {re sl be : Nat → Int} {w T : Nat} {rk : Nat → Nat} (h : HL C rw_ cl u v rn re sl be w T rk) : ∀ j, j ≤ cl → re j = 0 ∨ re j = 1 := h.2.2.2.1
theorem HL.rr {C : Nat → Nat → Int} {rw_ cl : Nat} {u v : Nat → Int} {rn : Nat → Nat} {re sl be : Nat → Int} {w T : Nat} {rk : Nat → Nat} (h : HL C rw_ cl u v rn re sl be w T rk) : ∀ j, j ≤ cl → re j = 1 → rn j ≠ 0 ∧ rk j < T := h.2.2.2.2.1
theorem HL.t0 {C : Nat → Nat → Int} {rw_ cl : Nat} {u v : Nat → Int} {rn : Nat → Nat} {re sl be : Nat → Int} {w T : Nat} {rk : Nat → Nat} (h : HL C rw_ cl u v rn re sl be w T rk) : T = 0 → w = 0 ∧ ∀ j, j ≤ cl → re j = 0 ∧ sl j = 4000000000000000000 := h.2.2.2.2.2.1
theorem HL.t1 {C : Nat → Nat → Int} {rw_ cl : Nat} {u v : Nat → Int} {rn : Nat → Nat} {re sl be : Nat → Int} {w T : Nat} {rk : Nat → Nat} (h : HL C rw_ cl u v rn re sl be w T rk) : 0 < T → w ≠ 0 ∧ re 0 = 1 ∧ sl w = 0 := h.2.2.2.2.2.2.1
theorem HL.eb {C : Nat → Nat → Int} {rw_ cl : Nat} {u v : Nat → Int} {rn : Nat → Nat} {re sl be : Nat → Int} {w T : Nat} {rk : Nat → Nat} (h : HL C rw_ cl u v rn re sl be w T rk) : ∀ j, j ≤ cl → 0 ≤ be j ∧ be j ≤ ((cl : Nat) : Int) := h.2.2.2.2.2.2.2.1
theorem HL.ed {C : Nat → Nat → Int} {rw_ cl : Nat} {u v : Nat → Int} {rn : Nat → Nat} {re sl be : Nat → Int} {w T : Nat} {rk : Nat → Nat} (h : HL C rw_ cl u v rn re sl be w T rk) : ∀ k, k ≤ cl → re k = 1 → k ≠ 0 → re (be k).toNat = 1 ∧ rk (be k).toNat < rk k ∧ u (rn (be k).toNat) + v k = C (rn (be k).toNat) k := h.2.2.2.2.2.2.2.2.1
theorem HL.sk {C : Nat → Nat → Int} {rw_ cl : Nat} {u v : Nat → Int} {rn : Nat → Nat} {re sl be : Nat → Int} {w T : Nat} {rk : Nat → Nat} (h : HL C rw_ cl u v rn re sl be w T rk) : 0 < T → ∀ j, 1 ≤ j → j ≤ cl → re j = 0 → re (be j).toNat = 1 ∧ sl j = C (rn (be j).toNat) j - u (rn (be j).toNat) - v j := h.2.2.2.2.2.2.2.2.2.1
theorem HL.sm {C : Nat → Nat → Int} {rw_ cl : Nat} {u v : Nat → Int} {rn : Nat → Nat} {re sl be : Nat → Int} {w T : Nat} {rk : Nat → Nat} (h : HL C rw_ cl u v rn re sl be w T rk) : 0 < T → ∀ j k, 1 ≤ j → j ≤ cl → re j = 0 → k ≤ cl → re k = 1 → sl j ≤ C (rn k) j - u (rn k) - v j := h.2.2.2.2.2.2.2.2.2.2.1
theorem HL.ct {C : Nat → Nat → Int} {rw_ cl : Nat} {u v : Nat → Int} {rn : Nat → Nat} {re sl be : Nat → Int} {w T : Nat} {rk : Nat → Nat} (h : HL C rw_ cl u v rn re sl be w T rk) : cntZ (fun j => re j = 1) (cl + 1) = ((T : Nat) : Int) := h.2.2.2.2.2.2.2.2.2.2.2
theorem rn_inj {cl t : Nat} {rn : Nat → Nat} (hN : HN cl t rn) (h0 : rn 0 = t + 1) {j k : Nat} (hj : j ≤ cl) (hk : k ≤ cl) (e : rn j = rn k) (hz : rn j ≠ 0) : j = k := by
  rcases Nat.eq_zero_or_pos j with a | a <;> rcases Nat.eq_zero_or_pos k with b | b
  · omega
  · subst a; have := hN.le k b hk; omega
  · subst b; have := hN.le j a hj; omega
  · exact hN.ij j k a hj b hk e hz
theorem rn_le {cl t : Nat} {rn : Nat → Nat} (hN : HN cl t rn) (h0 : rn 0 = t + 1) {j : Nat} (hj : j ≤ cl) : rn j ≤ t + 1 := by
  rcases Nat.eq_zero_or_pos j with a | a
  · subst a; omega
  · have := hN.le j a hj; omega
theorem cnt_put {re : Nat → Int} {w : Nat} (h : re w = 0) : ∀ k, cntZ (fun j => fup re w 1 j = 1) k = cntZ (fun j => re j = 1) k + ifZ (w < k) 1 0
  | 0 => by rw [cntZ, cntZ, ifZ_n (Nat.not_lt_zero _)]; rfl
  | k + 1 => by
    have ih := cnt_put h k
    by_cases e : k = w
    · subst e
      rw [cntZ_y (by show fup re k 1 k = 1; exact fup_self _ _ _), cntZ_n (by show ¬ re k = 1; omega), ih, ifZ_n (by omega), ifZ_y (by omega)]
      omega
    · have e2 : fup re w 1 k = re k := fup_ne _ _ e
      have e3 : ifZ (w < k + 1) 1 0 = ifZ (w < k) 1 0 := by
        by_cases c : w < k
        · rw [ifZ_y c, ifZ_y (by omega)]
        · rw [ifZ_n c, ifZ_n (by omega)]
      rw [e3]
      by_cases c : re k = 1
      · rw [cntZ_y (by show fup re w 1 k = 1; rw [e2]; exact c), cntZ_y (by exact c), ih]
        omega
      · rw [cntZ_n (by show ¬ fup re w 1 k = 1; rw [e2]; exact c), cntZ_n (by exact c), ih]
theorem cnt_miss {P : Nat → Prop} {w : Nat} (h : ¬ P w) : ∀ k, w < k → cntZ P k + 1 ≤ ((k : Nat) : Int)
  | 0, hk => absurd hk (Nat.not_lt_zero _)
  | k + 1, hk => by
    by_cases e : k = w
    · subst e
      have := cntZ_r P k
      rw [cntZ_n h]
      omega
    · have := cnt_miss h k (by omega)
      rcases bt_01 (P k) with z | z <;> rw [cntZ, z] <;> omega
theorem hl_T {C : Nat → Nat → Int} {rw_ cl w T : Nat} {u v re sl be : Nat → Int} {rn rk : Nat → Nat} (h : HL C rw_ cl u v rn re sl be w T rk) : T ≤ cl := by
  have a := h.ct
  have b := cnt_miss (P := fun j => re j = 1) (w := w) (by show ¬ re w = 1; have := h.wr; omega) (cl + 1) (by have := h.wl; omega)
  omega
/-- after the slack of the new column's row -/
theorem hl_mid {C : Nat → Nat → Int} {rw_ pt cl w T t : Nat} {u v re sl be : Nat → Int} {rn rk : Nat → Nat} (hC : HC C rw_ pt cl) (hN : HN cl t rn) (h0 : rn 0 = t + 1) (ht : t < rw_) (h : HL C rw_ cl u v rn re sl be w T rk) (hw : rn w ≠ 0) :
    ∀ j, 1 ≤ j → j ≤ cl → fup re w 1 j = 0 → ((0 ≤ lsB (fun j => C (rn w) j - u (rn w) - v j) (fup re w 1) sl be ((w : Nat) : Int) cl j ∧ lsB (fun j => C (rn w) j - u (rn w) - v j) (fup re w 1) sl be ((w : Nat) : Int) cl j ≤ ((cl : Nat) : Int)) ∧ fup re w 1 (lsB (fun j => C (rn w) j - u (rn w) - v j) (fup re w 1) sl be ((w : Nat) : Int) cl j).toNat = 1 ∧ lsS (fun j => C (rn w) j - u (rn w) - v j) (fup re w 1) sl cl j = C (rn (lsB (fun j => C (rn w) j - u (rn w) - v j) (fup re w 1) sl be ((w : Nat) : Int) cl j).toNat) j - u (rn (lsB (fun j => C (rn w) j - u (rn w) - v j) (fup re w 1) sl be ((w : Nat) : Int) cl j).toNat) - v j) ∧ ∀ k, k ≤ cl → fup re w 1 k = 1 → lsS (fun j => C (rn w) j - u (rn w) - v j) (fup re w 1) sl cl j ≤ C (rn k) j - u (rn k) - v j := by
  intro j h1 h2 h3
  have hwl := h.wl
  have hjw : j ≠ w := fun e => by rw [e, fup_self] at h3; omega
  have hr0 : re j = 0 := by rw [fup_ne _ _ hjw] at h3; exact h3
  have hb := hp_b hC hN ht h.pr
  have hwr := rn_le hN h0 hwl
  have hcj : C (rn w) j - u (rn w) - v j < 4000000000000000000 := by
    have a := hb.1 (rn w) (by omega) (by omega)
    have b := hb.2 j h1 h2
    have d := hC.c0 (rn w) j (by omega) (by omega) h1 h2
    omega
  by_cases c : C (rn w) j - u (rn w) - v j < sl j
  · have e1 : lsS (fun j => C (rn w) j - u (rn w) - v j) (fup re w 1) sl cl j = C (rn w) j - u (rn w) - v j := if_pos ⟨⟨h1, h2⟩, h3, c⟩
    have e2 : lsB (fun j => C (rn w) j - u (rn w) - v j) (fup re w 1) sl be ((w : Nat) : Int) cl j = ((w : Nat) : Int) := if_pos ⟨⟨h1, h2⟩, h3, c⟩
    rw [e1, e2]
    refine ⟨⟨by omega, by rw [Int.toNat_natCast]; exact fup_self _ _ _, by rw [Int.toNat_natCast]⟩, fun k hk hk1 => ?_⟩
    by_cases e : k = w
    · subst e; exact Int.le_refl _
    · rw [fup_ne _ _ e] at hk1
      have hT : 0 < T := by have := (h.rr k hk hk1).2; omega
      have := h.sm hT j k h1 h2 hr0 hk hk1
      omega
  · have e1 : lsS (fun j => C (rn w) j - u (rn w) - v j) (fup re w 1) sl cl j = sl j := if_neg (fun z => c z.2.2)
    have e2 : lsB (fun j => C (rn w) j - u (rn w) - v j) (fup re w 1) sl be ((w : Nat) : Int) cl j = be j := if_neg (fun z => c z.2.2)
    rw [e1, e2]
    have hT : 0 < T := by
      rcases Nat.eq_zero_or_pos T with z | z
      · have := ((h.t0 z).2 j h2).2; omega
      · exact z
    have hs := h.sk hT j h1 h2 hr0
    have hne : (be j).toNat ≠ w := fun e => by have a := hs.1; rw [e, h.wr] at a; omega
    refine ⟨⟨h.eb j h2, by rw [fup_ne _ _ hne]; exact hs.1, hs.2⟩, fun k hk hk1 => ?_⟩
    by_cases e : k = w
    · subst e; omega
    · rw [fup_ne _ _ e] at hk1
      exact h.sm hT j k h1 h2 hr0 hk hk1
theorem lsB_1 {c re sl be : Nat → Int} {w : Int} {k j : Nat} (h : re j = 1) : lsB c re sl be w k j = be j := if_neg (fun z => by have := z.2.1; omega)
theorem lsB_r {c re sl be : Nat → Int} {w : Nat} {k j cl : Nat} (hw : w ≤ cl) (h : 0 ≤ be j ∧ be j ≤ ((cl : Nat) : Int)) : 0 ≤ lsB c re sl be ((w : Nat) : Int) k j ∧ lsB c re sl be ((w : Nat) : Int) k j ≤ ((cl : Nat) : Int) := by
  unfold lsB
  split <;> omega
