/-! the prices move -/
theorem rpV_y {re v : Nat → Int} {b : Int} {k j : Nat} (hj : j < k) (h : re j = 1) : rpV re v b k j = v j - b := if_pos ⟨hj, h⟩
theorem rpV_n {re v : Nat → Int} {b : Int} {k j : Nat} (h : ¬ re j = 1) : rpV re v b k j = v j := if_neg (fun z => h z.2)
theorem rpS_y {re v : Nat → Int} {b : Int} {k j : Nat} (hj : j < k) (h : ¬ re j = 1) : rpS re v b k j = v j - b := if_pos ⟨hj, h⟩
theorem hl_rep {C : Nat → Nat → Int} {rw_ pt cl T t nx : Nat} {u v re s b : Nat → Int} {rn rk : Nat → Nat} (hC : HC C rw_ pt cl) (hN : HN cl t rn) (h0 : rn 0 = t + 1) (ht : t < rw_) (hP : HP C rw_ cl u v rn)
    (hb : ∀ j, j ≤ cl → re j = 0 ∨ re j = 1) (hrr : ∀ j, j ≤ cl → re j = 1 → rn j ≠ 0 ∧ rk j < T + 1) (hr0 : re 0 = 1) (heb : ∀ j, j ≤ cl → 0 ≤ b j ∧ b j ≤ ((cl : Nat) : Int))
    (hed : ∀ k, k ≤ cl → re k = 1 → k ≠ 0 → re (b k).toNat = 1 ∧ rk (b k).toNat < rk k ∧ u (rn (b k).toNat) + v k = C (rn (b k).toNat) k)
    (hm : ∀ j, 1 ≤ j → j ≤ cl → re j = 0 → (re (b j).toNat = 1 ∧ s j = C (rn (b j).toNat) j - u (rn (b j).toNat) - v j) ∧ ∀ k, k ≤ cl → re k = 1 → s j ≤ C (rn k) j - u (rn k) - v j)
    (hct : cntZ (fun j => re j = 1) (cl + 1) = ((T + 1 : Nat) : Int)) (hn1 : 1 ≤ nx) (hn2 : nx ≤ cl) (hn3 : re nx = 0) (hn4 : ∀ j, 1 ≤ j → j ≤ cl → re j = 0 → s nx ≤ s j) :
    HL C rw_ cl (rpU re rn u (s nx) (cl + 1)) (rpV re v (s nx) (cl + 1)) rn re (rpS re s (s nx) (cl + 1)) b nx (T + 1) rk := by
  have hij : ∀ j j', j < cl + 1 → j' < cl + 1 → re j = 1 → re j' = 1 → rn j = rn j' → j = j' := fun j j' h1 h2 h3 _ h5 => rn_inj hN h0 (by omega) (by omega) h5 (hrr j (by omega) h3).1
  have uy : ∀ k, k ≤ cl → re k = 1 → rpU re rn u (s nx) (cl + 1) (rn k) = u (rn k) + s nx := fun k hk h1 => rpU_y (cl + 1) hij k (by omega) h1 rfl
  have un : ∀ i, (∀ k, k ≤ cl → re k = 1 → rn k ≠ i) → rpU re rn u (s nx) (cl + 1) i = u i := fun i h => rpU_n (cl + 1) (fun k hk => h k (by omega))
  have vy : ∀ k, k ≤ cl → re k = 1 → rpV re v (s nx) (cl + 1) k = v k - s nx := fun k hk h1 => rpV_y (by omega) h1
  have vn : ∀ k, re k = 0 → rpV re v (s nx) (cl + 1) k = v k := fun k h1 => rpV_n (by omega)
  have sy : ∀ k, k ≤ cl → re k = 0 → rpS re s (s nx) (cl + 1) k = s k - s nx := fun k hk h1 => rpS_y (by omega) (by omega)
  have hbl : ∀ j, j ≤ cl → (b j).toNat ≤ cl := fun j hj => by have := heb j hj; omega
  have hby : 0 ≤ s nx := by
    have a := (hm nx hn1 hn2 hn3).1
    have d := rn_le hN h0 (hbl nx hn2)
    have e := (hrr _ (hbl nx hn2) a.1).1
    have f := hP.fe (rn (b nx).toNat) nx (by omega) (by omega) hn1 hn2
    omega
  have ucase : ∀ i, (∃ k, k ≤ cl ∧ re k = 1 ∧ rn k = i ∧ rpU re rn u (s nx) (cl + 1) i = u i + s nx) ∨ rpU re rn u (s nx) (cl + 1) i = u i := by
    intro i
    by_cases c : ∃ k, k ≤ cl ∧ re k = 1 ∧ rn k = i
    · obtain ⟨k, h1, h2, h3⟩ := c
      exact Or.inl ⟨k, h1, h2, h3, by rw [← h3]; exact uy k h1 h2⟩
    · exact Or.inr (un i (fun k h1 h2 h3 => c ⟨k, h1, h2, h3⟩))
  have pr : HP C rw_ cl (rpU re rn u (s nx) (cl + 1)) (rpV re v (s nx) (cl + 1)) rn := by
    refine ⟨?_, ?_, ?_, ?_, ?_⟩
    · intro i j h1 h2 h3 h4
      have f := hP.fe i j h1 h2 h3 h4
      rcases hb j h4 with c | c
      · rw [vn j c]
        rcases ucase i with ⟨k, k1, k2, k3, k4⟩ | k4
        · have a := (hm j h3 h4 c).2 k k1 k2
          have d := hn4 j h3 h4 c
          rw [k3] at a
          omega
        · omega
      · rw [vy j h4 c]
        rcases ucase i with ⟨k, k1, k2, k3, k4⟩ | k4 <;> omega
    · intro j h1 h2 h3
      have f := hP.ti j h1 h2 h3
      rcases hb j h2 with c | c
      · rw [vn j c, un (rn j) (fun k k1 k2 k3 => by
          have e := rn_inj hN h0 k1 h2 k3 (by rw [k3]; exact h3)
          rw [e] at k2
          omega)]
        exact f
      · rw [vy j h2 c, uy j h2 c]
        omega
    · intro j h1 h2
      have f := hP.vl j h1 h2
      rcases hb j h2 with c | c
      · rw [vn j c]; exact f
      · rw [vy j h2 c]; omega
    · intro j h1 h2 h3
      rcases hb j h2 with c | c
      · rw [vn j c]; exact hP.v0 j h1 h2 h3
      · exact absurd h3 (hrr j h2 c).1
    · intro i h1 h2
      have f := hP.u0 i h1 h2
      rcases ucase i with ⟨k, k1, k2, k3, k4⟩ | k4 <;> omega
  refine ⟨pr, hn2, hn3, hb, hrr, fun z => absurd z (Nat.succ_ne_zero T), fun _ => ⟨by omega, hr0, by rw [sy nx hn2 hn3]; omega⟩, heb, ?_, ?_, ?_, hct⟩
  · intro k k1 k2 k3
    have a := hed k k1 k2 k3
    refine ⟨a.1, a.2.1, ?_⟩
    rw [uy _ (hbl k k1) a.1, vy k k1 k2]
    have := a.2.2
    omega
  · intro _ j h1 h2 h3
    have a := (hm j h1 h2 h3).1
    refine ⟨a.1, ?_⟩
    rw [uy _ (hbl j h2) a.1, vn j h3, sy j h2 h3, a.2]
    omega
  · intro _ j k h1 h2 h3 h4 h5
    have a := (hm j h1 h2 h3).2 k h4 h5
    rw [uy k h4 h5, vn j h3, sy j h2 h3]
    omega
theorem hl_step {C : Nat → Nat → Int} {rw_ pt cl w T t : Nat} {u v re sl be : Nat → Int} {rn rk : Nat → Nat} (hC : HC C rw_ pt cl) (hN : HN cl t rn) (h0 : rn 0 = t + 1) (ht : t < rw_) (h : HL C rw_ cl u v rn re sl be w T rk) (hw : rn w ≠ 0) {re1 s1 b1 : Nat → Int} {nx : Nat} (e1 : re1 = fup re w 1) (e2 : s1 = lsS (fun j => C (rn w) j - u (rn w) - v j) re1 sl cl) (e3 : b1 = lsB (fun j => C (rn w) j - u (rn w) - v j) re1 sl be ((w : Nat) : Int) cl) (e4 : nx = nrF re1 s1 cl) :
    HL C rw_ cl (rpU re1 rn u (s1 nx) (cl + 1)) (rpV re1 v (s1 nx) (cl + 1)) rn re1 (rpS re1 s1 (s1 nx) (cl + 1)) b1 nx (T + 1) (fup rk w T) := by
  have hwl := h.wl
  have hwr := h.wr
  have hmid := hl_mid hC hN h0 ht h hw
  rw [← e1, ← e2, ← e3] at hmid
  have ne1 : ∀ j, j ≠ w → re1 j = re j := fun j hj => by rw [e1]; exact fup_ne _ _ hj
  have at1 : re1 w = 1 := by rw [e1]; exact fup_self _ _ _
  have bo : ∀ j, re1 j = 1 → b1 j = be j := fun j hj => by rw [e3]; exact lsB_1 hj
  obtain ⟨f, hf1, hf2, hf3⟩ := free_col hC hN ht
  have hfr : re1 f = 0 := by
    have a : f ≠ w := fun e => hw (by rw [← e]; exact hf3)
    rw [ne1 f a]
    rcases h.bb f hf2 with z | z
    · exact z
    · exact absurd hf3 (h.rr f hf2 z).1
  have hn : 1 ≤ nx ∧ nx ≤ cl ∧ re1 nx = 0 ∧ ∀ j, 1 ≤ j → j ≤ cl → re1 j = 0 → s1 nx ≤ s1 j := by
    rw [e4]
    rcases nr_spec (re := re1) (s := s1) cl with ⟨_, b⟩ | b
    · exact absurd hfr (b f (by omega) hf2)
    · exact b
  have heb : ∀ j, j ≤ cl → 0 ≤ b1 j ∧ b1 j ≤ ((cl : Nat) : Int) := fun j hj => by rw [e3]; exact lsB_r hwl (h.eb j hj)
  refine hl_rep hC hN h0 ht h.pr ?_ ?_ ?_ heb ?_ (fun j h1 h2 h3 => ⟨(hmid j h1 h2 h3).1.2, (hmid j h1 h2 h3).2⟩) ?_ hn.1 hn.2.1 hn.2.2.1 hn.2.2.2
  · intro j hj
    by_cases e : j = w
    · rw [e]; exact Or.inr at1
    · rw [ne1 j e]; exact h.bb j hj
  · intro j hj h1
    by_cases e : j = w
    · rw [e, fup_self]; exact ⟨hw, by omega⟩
    · rw [ne1 j e] at h1
      rw [fup_ne _ _ e]
      have := h.rr j hj h1
      exact ⟨this.1, by omega⟩
  · by_cases e : 0 = w
    · rw [e]; exact at1
    · rw [ne1 0 e]
      rcases Nat.eq_zero_or_pos T with z | z
      · exact absurd (h.t0 z).1.symm e
      · exact (h.t1 z).2.1
  · intro k hk h1 hk0
    rw [bo k h1]
    by_cases e : k = w
    · have hT : 0 < T := by
        rcases Nat.eq_zero_or_pos T with z | z
        · exact absurd ((h.t0 z).1 ▸ e) hk0
        · exact z
      subst e
      have a := h.sk hT k (by omega) hk hwr
      have d := (h.t1 hT).2.2
      have ne : (be k).toNat ≠ k := fun z => by have y := a.1; rw [z, hwr] at y; omega
      have hl := h.eb k hk
      have rk1 := (h.rr _ (by omega) a.1).2
      refine ⟨by rw [ne1 _ ne]; exact a.1, by rw [fup_ne _ _ ne, fup_self]; exact rk1, by omega⟩
    · rw [ne1 k e] at h1
      have a := h.ed k hk h1 hk0
      have ne : (be k).toNat ≠ w := fun z => by have y := a.1; rw [z, hwr] at y; omega
      refine ⟨by rw [ne1 _ ne]; exact a.1, by rw [fup_ne _ _ ne, fup_ne _ _ e]; exact a.2.1, a.2.2⟩
  · rw [e1, cnt_put hwr, h.ct, ifZ_y (by omega)]
    rfl
