/-! the path back -/
theorem hl_b {C : Nat → Nat → Int} {rw_ pt cl w T t : Nat} {u v re sl be : Nat → Int} {rn rk : Nat → Nat} (hC : HC C rw_ pt cl) (hN : HN cl t rn) (h0 : rn 0 = t + 1) (ht : t < rw_) (h : HL C rw_ cl u v rn re sl be w T rk) : (∀ j, 1 ≤ j → j < cl + 1 → re j = 0 → 0 ≤ sl j ∧ sl j ≤ 4000000000000000000) ∧ (∀ k j, k ≤ cl → rn k ≠ 0 → 1 ≤ j → j < cl + 1 → 0 ≤ C (rn k) j - u (rn k) - v j ∧ C (rn k) j - u (rn k) - v j ≤ 2000000000000000000) := by
  have hb := hp_b hC hN ht h.pr
  have hc : ∀ k j, k ≤ cl → rn k ≠ 0 → 1 ≤ j → j < cl + 1 → 0 ≤ C (rn k) j - u (rn k) - v j ∧ C (rn k) j - u (rn k) - v j ≤ 2000000000000000000 := by
    intro k j hk hz h1 h2
    have hr := rn_le hN h0 hk
    have a := hb.1 (rn k) (by omega) (by omega)
    have b := hb.2 j h1 (by omega)
    have d := hC.c0 (rn k) j (by omega) (by omega) h1 (by omega)
    have e := h.pr.fe (rn k) j (by omega) (by omega) h1 (by omega)
    omega
  refine ⟨fun j h1 h2 h3 => ?_, hc⟩
  rcases Nat.eq_zero_or_pos T with z | z
  · have := ((h.t0 z).2 j (by omega)).2; omega
  · have a := h.sk z j h1 (by omega) h3
    have b := h.eb j (by omega)
    have d := hc (be j).toNat j (by omega) (h.rr _ (by omega) a.1).1 h1 h2
    omega
def HT (C : Nat → Nat → Int) (cl t : Nat) (u v : Nat → Int) (rn m : Nat → Nat) (re be : Nat → Int) (w R : Nat) (rk : Nat → Nat) : Prop := (w ≤ cl) ∧ (∀ j k, j ≤ cl → k ≤ cl → j ≠ w → k ≠ w → m j = m k → m j ≠ 0 → j = k) ∧ (∀ i, 1 ≤ i → i ≤ t + 1 → ∃ j, j ≤ cl ∧ j ≠ w ∧ m j = i) ∧ (∀ j, 1 ≤ j → j ≤ cl → j ≠ w → m j ≠ 0 → u (m j) + v j = C (m j) j) ∧ (∀ j, j ≤ cl → m j ≤ t + 1) ∧ (∀ j, 1 ≤ j → j ≤ cl → j ≠ w → m j = 0 → v j = 0) ∧ (∀ k, k ≤ cl → re k = 1 → rk k < R → m k = rn k) ∧ (w ≠ 0 → re (be w).toNat = 1 ∧ rk (be w).toNat < R ∧ u (rn (be w).toNat) + v w = C (rn (be w).toNat) w) ∧ (re w = 1 → rk w = R)
theorem HT.wl {C : Nat → Nat → Int} {cl t : Nat} {u v : Nat → Int} {rn m : Nat → Nat} {re be : Nat → Int} {w R : Nat} {rk : Nat → Nat} (h : HT C cl t u v rn m re be w R rk) : w ≤ cl := h.1
theorem HT.ij {C : Nat → Nat → Int} {cl t : Nat} {u v : Nat → Int} {rn m : Nat → Nat} {re be : Nat → Int} {w R : Nat} {rk : Nat → Nat} (h : HT C cl t u v rn m re be w R rk) : ∀ j k, j ≤ cl → k ≤ cl → j ≠ w → k ≠ w → m j = m k → m j ≠ 0 → j = k := h.2.1
theorem HT.su {C : Nat → Nat → Int} {cl t : Nat} {u v : Nat → Int} {rn m : Nat → Nat} {re be : Nat → Int} {w R : Nat} {rk : Nat → Nat} (h : HT C cl t u v rn m re be w R rk) : ∀ i, 1 ≤ i → i ≤ t + 1 → ∃ j, j ≤ cl ∧ j ≠ w ∧ m j = i := h.2.2.1
theorem HT.ti {C : Nat → Nat → Int} {cl t : Nat} {u v : Nat → Int} {rn m : Nat → Nat} {re be : Nat → Int} {w R : Nat} {rk : Nat → Nat} (h : HT C cl t u v rn m re be w R rk) : ∀ j, 1 ≤ j → j ≤ cl → j ≠ w → m j ≠ 0 → u (m j) + v j = C (m j) j := h.2.2.2.1
theorem HT.le {C : Nat → Nat → Int} {cl t : Nat} {u v : Nat → Int} {rn m : Nat → Nat} {re be : Nat → Int} {w R : Nat} {rk : Nat → Nat} (h : HT C cl t u v rn m re be w R rk) : ∀ j, j ≤ cl → m j ≤ t + 1 := h.2.2.2.2.1
theorem HT.v0 {C : Nat → Nat → Int} {cl t : Nat} {u v : Nat → Int} {rn m : Nat → Nat} {re be : Nat → Int} {w R : Nat} {rk : Nat → Nat} (h : HT C cl t u v rn m re be w R rk) : ∀ j, 1 ≤ j → j ≤ cl → j ≠ w → m j = 0 → v j = 0 := h.2.2.2.2.2.1
theorem HT.sa {C : Nat → Nat → Int} {cl t : Nat} {u v : Nat → Int} {rn m : Nat → Nat} {re be : Nat → Int} {w R : Nat} {rk : Nat → Nat} (h : HT C cl t u v rn m re be w R rk) : ∀ k, k ≤ cl → re k = 1 → rk k < R → m k = rn k := h.2.2.2.2.2.2.1
theorem HT.ew {C : Nat → Nat → Int} {cl t : Nat} {u v : Nat → Int} {rn m : Nat → Nat} {re be : Nat → Int} {w R : Nat} {rk : Nat → Nat} (h : HT C cl t u v rn m re be w R rk) : w ≠ 0 → re (be w).toNat = 1 ∧ rk (be w).toNat < R ∧ u (rn (be w).toNat) + v w = C (rn (be w).toNat) w := h.2.2.2.2.2.2.2.1
theorem HT.rw1 {C : Nat → Nat → Int} {cl t : Nat} {u v : Nat → Int} {rn m : Nat → Nat} {re be : Nat → Int} {w R : Nat} {rk : Nat → Nat} (h : HT C cl t u v rn m re be w R rk) : re w = 1 → rk w = R := h.2.2.2.2.2.2.2.2
theorem ht_0 {C : Nat → Nat → Int} {rw_ cl w T t : Nat} {u v re sl be : Nat → Int} {rn rk : Nat → Nat} (hN : HN cl t rn) (h0 : rn 0 = t + 1) (h : HL C rw_ cl u v rn re sl be w T rk) (hw : rn w = 0) : HT C cl t u v rn rn re be w T rk := by
  have hwl := h.wl
  have hT : 0 < T := by
    rcases Nat.eq_zero_or_pos T with z | z
    · have := (h.t0 z).1; subst this; omega
    · exact z
  have hw0 := (h.t1 hT).1
  refine ⟨hwl, fun j k hj hk _ _ e hz => rn_inj hN h0 hj hk e hz, ?_, fun j h1 h2 _ h4 => h.pr.ti j h1 h2 h4, fun j hj => rn_le hN h0 hj, fun j h1 h2 _ h4 => h.pr.v0 j h1 h2 h4, fun _ _ _ _ => rfl, ?_, ?_⟩
  · intro i h1 h2
    rcases Nat.lt_or_ge t i with c | c
    · exact ⟨0, by omega, fun e => hw0 e.symm, by omega⟩
    · obtain ⟨j, a, b, d⟩ := hN.su i h1 c
      exact ⟨j, b, fun e => by rw [e, hw] at d; omega, d⟩
  · intro _
    have a := h.sk hT w (by omega) hwl h.wr
    have b := (h.t1 hT).2.2
    have d := h.eb w hwl
    exact ⟨a.1, (h.rr _ (by omega) a.1).2, by omega⟩
  · intro z
    have := h.wr
    omega
theorem ht_step {C : Nat → Nat → Int} {rw_ cl w T t x y R : Nat} {u v re sl be : Nat → Int} {rn rk m : Nat → Nat} (h : HL C rw_ cl u v rn re sl be x T rk) (g : HT C cl t u v rn m re be w R rk) (hw : w ≠ 0) (hy : y = (be w).toNat) : HT C cl t u v rn (fup m w (m y)) re be y (rk y) rk ∧ rk y < R := by
  have hwl := g.wl
  obtain ⟨e1, e2, e3⟩ := g.ew hw
  rw [← hy] at e1 e2 e3
  have hyl : y ≤ cl := by have := h.eb w hwl; omega
  have hyw : y ≠ w := fun e => by have := g.rw1 (e ▸ e1); rw [e] at e2; omega
  have hmy := g.sa y hyl e1 e2
  have hny := (h.rr y hyl e1).1
  refine ⟨⟨hyl, ?_, ?_, ?_, ?_, ?_, ?_, ?_, fun _ => rfl⟩, e2⟩
  · intro j k hj hk hjy hky e hz
    by_cases a : j = w <;> by_cases b : k = w
    · omega
    · rw [a, fup_self] at e hz
      rw [fup_ne _ _ b] at e
      exact absurd (g.ij y k hyl hk hyw b e hz).symm hky
    · rw [b, fup_self] at e
      rw [fup_ne _ _ a] at e hz
      exact absurd (g.ij j y hj hyl a hyw e hz) hjy
    · rw [fup_ne _ _ a, fup_ne _ _ b] at e
      rw [fup_ne _ _ a] at hz
      exact g.ij j k hj hk a b e hz
  · intro i h1 h2
    obtain ⟨j, a, b, d⟩ := g.su i h1 h2
    by_cases e : j = y
    · exact ⟨w, hwl, fun z => hyw z.symm, by rw [fup_self, ← e]; exact d⟩
    · exact ⟨j, a, e, by rw [fup_ne _ _ b]; exact d⟩
  · intro j h1 h2 h3 h4
    by_cases a : j = w
    · rw [a, fup_self, hmy]; exact e3
    · rw [fup_ne _ _ a] at h4 ⊢; exact g.ti j h1 h2 a h4
  · intro j hj
    by_cases a : j = w
    · rw [a, fup_self]; exact g.le y hyl
    · rw [fup_ne _ _ a]; exact g.le j hj
  · intro j h1 h2 h3 h4
    by_cases a : j = w
    · rw [a, fup_self, hmy] at h4; exact absurd h4 hny
    · rw [fup_ne _ _ a] at h4; exact g.v0 j h1 h2 a h4
  · intro k hk h1 h2
    have a : k ≠ w := fun e => by have := g.rw1 (e ▸ h1); rw [e] at h2; omega
    rw [fup_ne _ _ a]
    exact g.sa k hk h1 (by omega)
  · intro hy0
    exact h.ed y hyl e1 hy0
theorem ht_end {C : Nat → Nat → Int} {rw_ cl t x T R : Nat} {u v re sl be : Nat → Int} {rn rk m : Nat → Nat} (h : HL C rw_ cl u v rn re sl be x T rk) (g : HT C cl t u v rn m re be 0 R rk) : HP C rw_ cl u v m ∧ HN cl (t + 1) m := by
  refine ⟨⟨h.pr.fe, fun j h1 h2 h3 => g.ti j h1 h2 (by omega) h3, h.pr.vl, fun j h1 h2 h3 => g.v0 j h1 h2 (by omega) h3, h.pr.u0⟩, fun j _ h2 => g.le j h2, fun j k h1 h2 h3 h4 e hz => g.ij j k h2 h4 (by omega) (by omega) e hz, fun i h1 h2 => ?_⟩
  obtain ⟨j, a, b, d⟩ := g.su i h1 h2
  exact ⟨j, by omega, a, d⟩
theorem hl_0 {C : Nat → Nat → Int} {rw_ cl : Nat} {u v re sl be : Nat → Int} {rn rk : Nat → Nat} (hP : HP C rw_ cl u v rn) (hs : ∀ j, j < cl + 1 → sl j = 4000000000000000000) (hr : ∀ j, j < cl + 1 → re j = 0) (hb : ∀ j, j < cl + 1 → be j = 0) : HL C rw_ cl u v rn re sl be 0 0 rk := by
  have h0 : ∀ k, k ≤ cl + 1 → cntZ (fun j => re j = 1) k = 0 := by
    intro k
    induction k with
    | zero => intro _; rfl
    | succ k ih => intro hk; rw [cntZ_n (by show ¬ re k = 1; have := hr k (by omega); omega)]; exact ih (by omega)
  have nr : ∀ j, j ≤ cl → ¬ re j = 1 := fun j hj => by have := hr j (by omega); omega
  exact ⟨hP, Nat.zero_le _, hr 0 (by omega), fun j hj => Or.inl (hr j (by omega)), fun j hj z => absurd z (nr j hj), fun _ => ⟨rfl, fun j hj => ⟨hr j (by omega), hs j (by omega)⟩⟩, fun z => absurd z (Nat.lt_irrefl 0), fun j hj => by have := hb j (by omega); omega, fun k hk z => absurd z (nr k hk), fun z => absurd z (Nat.lt_irrefl 0), fun z => absurd z (Nat.lt_irrefl 0), h0 _ (Nat.le_refl _)⟩
