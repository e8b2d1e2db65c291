/-! texts: ends of numbers ahead of a place, the number that is being read, the numbers read (by place in the rule, then by rule) -/
def dgt (z : Int) : Prop := 48 ≤ z ∧ z ≤ 57
noncomputable def tE (sg : Nat → Int) : Nat → Nat
  | 0 => 0
  | i + 1 => by classical exact if dgt (sg i) then tE sg i else tE sg i + 1
noncomputable def rV (sg : Nat → Int) : Nat → Int
  | 0 => 0
  | i + 1 => by classical exact if dgt (sg i) then rV sg i * 10 + sg i - 48 else 0
noncomputable def rA (sg : Nat → Int) : Nat → (Nat → Nat → Int)
  | 0 => fun _ _ => 0
  | i + 1 => by classical exact if dgt (sg i) then rA sg i else fup (rA sg i) (tE sg i % 4) (fup (rA sg i (tE sg i % 4)) (tE sg i / 4) (rV sg i))
theorem tE_y {sg : Nat → Int} {i : Nat} (h : dgt (sg i)) : tE sg (i + 1) = tE sg i := by rw [tE]; simp [h]
theorem tE_n {sg : Nat → Int} {i : Nat} (h : ¬ dgt (sg i)) : tE sg (i + 1) = tE sg i + 1 := by rw [tE]; simp [h]
theorem rV_y {sg : Nat → Int} {i : Nat} (h : dgt (sg i)) : rV sg (i + 1) = rV sg i * 10 + sg i - 48 := by rw [rV]; simp [h]
theorem rV_n {sg : Nat → Int} {i : Nat} (h : ¬ dgt (sg i)) : rV sg (i + 1) = 0 := by rw [rV]; simp [h]
theorem rA_y {sg : Nat → Int} {i : Nat} (h : dgt (sg i)) : rA sg (i + 1) = rA sg i := by rw [rA]; simp [h]
theorem rA_n {sg : Nat → Int} {i : Nat} (h : ¬ dgt (sg i)) : rA sg (i + 1) = fup (rA sg i) (tE sg i % 4) (fup (rA sg i (tE sg i % 4)) (tE sg i / 4) (rV sg i)) := by rw [rA]; simp [h]
theorem tE_le (sg : Nat → Int) {i : Nat} : ∀ m, i ≤ m → tE sg i ≤ tE sg m
  | 0, h => by rw [show i = 0 by omega]; exact Nat.le_refl _
  | m + 1, h => by
    by_cases e : i = m + 1
    · rw [e]; exact Nat.le_refl _
    · have := tE_le sg m (by omega : i ≤ m)
      by_cases c : dgt (sg m)
      · rw [tE_y c]; exact this
      · rw [tE_n c]; omega
/-- what was read stays -/
theorem rA_keep {sg : Nat → Int} {i s k : Nat} (hs : s < 4) (hk : 4 * k + s < tE sg i) : ∀ m, i ≤ m → rA sg m s k = rA sg i s k
  | 0, h => by rw [show i = 0 by omega]
  | m + 1, h => by
    by_cases e : i = m + 1
    · rw [e]
    · have ih := rA_keep hs hk m (by omega)
      have hl := tE_le sg m (by omega : i ≤ m)
      by_cases c : dgt (sg m)
      · rw [rA_y c]; exact ih
      · rw [rA_n c]
        by_cases e1 : s = tE sg m % 4
        · rw [e1, fup_self, fup_ne _ _ (by omega), ← e1]; exact ih
        · rw [fup_ne _ _ e1]; exact ih
theorem rA_put {sg : Nat → Int} {i L : Nat} (hi : i < L) (hd : ¬ dgt (sg i)) : rA sg L (tE sg i % 4) (tE sg i / 4) = rV sg i := by
  rw [rA_keep (i := i + 1) (Nat.mod_lt _ (by omega)) (by rw [tE_n hd]; omega) L (by omega), rA_n hd, fup_self, fup_self]
/-- as long as there is no fault -/
theorem txt_ok {sg : Nat → Int} : ∀ i, (∀ r, r < i → ¬ sBad sg r) → (fS sg i).1 = tE sg i % 4 ∧ 2 * tE sg i + (fS sg i).2 ≤ i ∧ (0 ≤ rV sg i ∧ rV sg i < 10 ^ (fS sg i).2) ∧ (fS sg i).2 ≤ 4
  | 0, _ => by
    refine ⟨rfl, Nat.le_refl _, ?_, by rw [fS]; omega⟩
    rw [rV, fS]
    decide
  | i + 1, hb => by
    obtain ⟨h1, h2, h3, h4⟩ := txt_ok i (fun r hr => hb r (Nat.lt_succ_of_lt hr))
    have hn := hb i (Nat.lt_succ_self i)
    by_cases c : dgt (sg i)
    · have hne : ¬ sEnd sg (fS sg i) i := by
        intro z
        have := z.2
        have := mrk_c (fS sg i).1
        unfold dgt at c
        omega
      have hg : sGo sg (fS sg i) i := Classical.byContradiction fun z => hn ⟨z, hne⟩
      have := hg.2
      rw [fS_n hne, tE_y c, rV_y c]
      refine ⟨h1, by show 2 * tE sg i + ((fS sg i).2 + 1) ≤ i + 1; omega, ?_, by show (fS sg i).2 + 1 ≤ 4; omega⟩
      unfold dgt at c
      show 0 ≤ rV sg i * 10 + sg i - 48 ∧ rV sg i * 10 + sg i - 48 < 10 ^ ((fS sg i).2 + 1)
      rw [Int.pow_succ]
      omega
    · have he : sEnd sg (fS sg i) i := Classical.byContradiction fun z => hn ⟨fun g => c g.1, z⟩
      have := he.1
      rw [fS_y he, tE_n c, rV_n c]
      refine ⟨?_, by show 2 * (tE sg i + 1) + 0 ≤ i + 1; omega, by show (0 : Int) ≤ 0 ∧ (0 : Int) < 10 ^ 0; decide, by show 0 ≤ 4; omega⟩
      show ((fS sg i).1 + 1) % 4 = (tE sg i + 1) % 4
      rw [h1]
      omega
theorem p4 {d : Nat} (h : d ≤ 4) : (10 : Int) ^ d ≤ 10000 := by
  rcases (show d = 0 ∨ d = 1 ∨ d = 2 ∨ d = 3 ∨ d = 4 by omega) with rfl | rfl | rfl | rfl | rfl <;> decide
theorem rV_b {sg : Nat → Int} {i : Nat} (hb : ∀ r, r < i → ¬ sBad sg r) : 0 ≤ rV sg i ∧ rV sg i ≤ 9999 := by
  obtain ⟨-, -, h3, h4⟩ := txt_ok i hb
  have := p4 h4
  omega
theorem flt_none {sg : Nat → Int} {L : Nat} (h : fltZ sg L = -6) : (∀ r, r < L → ¬ sBad sg r) ∧ (fS sg L).1 = 0 ∧ 0 < (fS sg L).2 := by
  have hno : ∀ r, r < L → ¬ sBad sg r := by
    intro r hr hbad
    -- the least bad place
    have key : ∀ m, m ≤ L → (∃ r, r < m ∧ sBad sg r) → ∃ k, k < m ∧ sBad sg k ∧ ∀ r, r < k → ¬ sBad sg r := by
      intro m
      induction m with
      | zero => rintro - ⟨r, hr, -⟩; omega
      | succ m ih =>
        rintro hm ⟨r, hr, hb⟩
        by_cases c : ∃ r, r < m ∧ sBad sg r
        · obtain ⟨k, h1, h2, h3⟩ := ih (by omega) c
          exact ⟨k, by omega, h2, h3⟩
        · have e : r = m := by
            by_cases e : r = m
            · exact e
            · exact absurd ⟨r, by omega, hb⟩ c
          subst e
          exact ⟨r, hr, hb, fun r2 h2 hb2 => c ⟨r2, h2, hb2⟩⟩
    obtain ⟨k, h1, h2, h3⟩ := key L (Nat.le_refl _) ⟨r, hr, hbad⟩
    rw [flt_at h1 h3 h2] at h
    omega
  rw [flt_end hno] at h
  by_cases c : (fS sg L).1 = 0 ∧ 0 < (fS sg L).2
  · exact ⟨hno, c⟩
  · rw [ifZ_n c] at h
    omega
/-- at a sign that ends a number fewer than five rules are there -/
theorem txt_5 {sg : Nat → Int} {i L : Nat} (hL : L ≤ 48) (hf : fltZ sg L = -6) : tE sg L / 4 ≤ 5 ∧ tE sg L % 4 = 0 ∧ (i < L → ¬ dgt (sg i) → tE sg i / 4 < tE sg L / 4) := by
  obtain ⟨hno, h0, hd⟩ := flt_none hf
  obtain ⟨h1, h2, -, -⟩ := txt_ok L hno
  refine ⟨by omega, by omega, fun hi hdg => ?_⟩
  have := tE_le sg L (by omega : i + 1 ≤ L)
  rw [tE_n hdg] at this
  omega
/-- what a text tells for a day -/
noncomputable def tlT (q : Nat → Nat → Int) (n : Nat) (sg : Nat → Int) (L : Nat) (d : Int) : Int := tld q n (tE sg L / 4) (rV sg L) (rA sg L 0) (rA sg L 1) (rA sg L 2) (rA sg L 3) d
theorem rA_b {sg : Nat → Int} : ∀ i, (∀ r, r < i → ¬ sBad sg r) → ∀ s k, 0 ≤ rA sg i s k ∧ rA sg i s k ≤ 9999
  | 0, _, s, k => by rw [rA]; show (0 : Int) ≤ 0 ∧ (0 : Int) ≤ 9999; decide
  | i + 1, hb, s, k => by
    have ih := rA_b i (fun r hr => hb r (Nat.lt_succ_of_lt hr))
    by_cases c : dgt (sg i)
    · rw [rA_y c]; exact ih s k
    · rw [rA_n c]
      by_cases e : s = tE sg i % 4
      · rw [e, fup_self]
        by_cases e2 : k = tE sg i / 4
        · rw [e2, fup_self]; exact rV_b (fun r hr => hb r (Nat.lt_succ_of_lt hr))
        · rw [fup_ne _ _ e2]; exact ih _ _
      · rw [fup_ne _ _ e]; exact ih _ _
theorem okF_txt {sg : Nat → Int} {L : Nat} (hL : L ≤ 48) (hf : fltZ sg L = -6) : okF (tE sg L / 4) (rV sg L) (rA sg L 0) (rA sg L 1) (rA sg L 2) (rA sg L 3) := by
  obtain ⟨hno, -, -⟩ := flt_none hf
  have h := rA_b L hno
  exact ⟨(txt_5 (i := 0) hL hf).1, rV_b hno, fun k _ => h 0 k, fun k _ => h 1 k, fun k _ => h 2 k, fun k _ => h 3 k⟩
theorem tlT_b {q : Nat → Nat → Int} {n : Nat} {sg : Nat → Int} {L : Nat} (hL : L ≤ 48) (hf : fltZ sg L = -6) (d : Int) : 0 ≤ tlT q n sg L d ∧ tlT q n sg L d ≤ 1000 := tld_b (okF_txt hL hf) d
