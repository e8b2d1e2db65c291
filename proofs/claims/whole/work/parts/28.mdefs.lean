/-! the reference's cells -/
abbrev MO (n fc hn ln : Nat) (ma mb : Int) : PC := oO 9 [zR 65, zR 66, zR 67, zR 68, zR 69, zR 70, zR 71, zI ((n : Nat) : Int), zR 72, zR 73, zR 74, zR 75, zI ma, zI mb, zR 76, zR 77, zR 78, zR 79, zR 80, zR 81, zI ((fc : Nat) : Int), zR 82, zR 83, zR 84, zR 85, zR 86, zR 87, zI ((hn : Nat) : Int), zR 88, zR 89, zR 90, zR 91, zR 92, zI ((ln : Nat) : Int)]
def isM (h : Nat → Option PC) (n : Nat) (q : Nat → Nat → Int) (o : Nat → Nat) (fc hn ln : Nat) (ma mb : Int) (st : Nat → Int) : Prop :=
  h 64 = some (MO n fc hn ln ma mb) ∧ h 65 = some (oA 0 40 (q 0)) ∧ h 66 = some (oA 0 40 (q 1)) ∧ h 67 = some (oA 0 40 (q 2)) ∧ h 68 = some (oA 0 40 (q 3)) ∧ h 69 = some (oA 0 40 (q 4)) ∧ h 70 = some (oA 0 40 (q 5)) ∧ h 71 = some (oA 1 40 (q 6)) ∧ h 72 = some (oA 0 5 st) ∧ h 73 = some (oA 0 40 (fun p => ((o p : Nat) : Int)))
def isMs (h : Nat → Option PC) (pr fa sp : Nat → Int) : Prop := h 77 = some (oA 0 10 pr) ∧ h 78 = some (oA 0 8 fa) ∧ h 79 = some (oA 0 8 sp)
def okN (st : Nat → Int) : Prop := (0 ≤ st 0 ∧ st 0 ≤ 10) ∧ (0 ≤ st 1 ∧ st 1 ≤ 5) ∧ (0 ≤ st 2 ∧ st 2 ≤ 20) ∧ (1 ≤ st 3 ∧ st 3 ≤ 100000) ∧ (0 ≤ st 4 ∧ st 4 ≤ 20)
theorem okN.r {st : Nat → Int} (h : okN st) (k : Nat) (hk : k < 5) : 0 ≤ st k ∧ st k ≤ 100000 := by
  obtain ⟨h0, h1, h2, h3, h4⟩ := h
  rcases (show k = 0 ∨ k = 1 ∨ k = 2 ∨ k = 3 ∨ k = 4 by omega) with rfl | rfl | rfl | rfl | rfl <;> omega
theorem ahd_lt {n : Nat} {q : Nat → Nat → Int} {o : Nat → Nat} (hO : okQ n q o) {r p : Nat} (hr : r < n) (hp : p < n) : ahd q (o r) (o p) ↔ r < p := by
  constructor
  · intro h
    rcases Nat.lt_trichotomy r p with c | c | c
    · exact c
    · subst c; exact absurd rfl (ahd_ne h)
    · have h2 := hO.2.2.2.1 p r c hr
      rcases h with h | h <;> rcases h2 with h2 | h2 <;> omega
  · intro c
    exact hO.2.2.2.1 r p c hp
/-- the mother's place -/
noncomputable def lkp (pr fa sp : Nat → Int) (q : Nat → Nat → Int) (o : Nat → Nat) (b calm : Int) (p : Nat) : Nat → Option Nat
  | 0 => none
  | r + 1 => by classical exact if cnd q (-1) b (o r) ∧ (lik pr fa sp q o b calm p r).2 < wpl pr fa sp q o p r then some r else lkp pr fa sp q o b calm p r
theorem lkp_y {pr fa sp : Nat → Int} {q : Nat → Nat → Int} {o : Nat → Nat} {b calm : Int} {p r : Nat} (h : cnd q (-1) b (o r) ∧ (lik pr fa sp q o b calm p r).2 < wpl pr fa sp q o p r) : lkp pr fa sp q o b calm p (r + 1) = some r := by rw [lkp]; simp [h]
theorem lkp_n {pr fa sp : Nat → Int} {q : Nat → Nat → Int} {o : Nat → Nat} {b calm : Int} {p r : Nat} (h : ¬ (cnd q (-1) b (o r) ∧ (lik pr fa sp q o b calm p r).2 < wpl pr fa sp q o p r)) : lkp pr fa sp q o b calm p (r + 1) = lkp pr fa sp q o b calm p r := by rw [lkp]; simp [h]
theorem lkp_lik {pr fa sp : Nat → Int} {q : Nat → Nat → Int} {o : Nat → Nat} {b calm : Int} {p : Nat} : ∀ r, (lkp pr fa sp q o b calm p r = none ∧ (lik pr fa sp q o b calm p r).1 = -6) ∨ ∃ r', r' < r ∧ cnd q (-1) b (o r') ∧ lkp pr fa sp q o b calm p r = some r' ∧ (lik pr fa sp q o b calm p r).1 = ((o r' : Nat) : Int)
  | 0 => Or.inl ⟨rfl, rfl⟩
  | r + 1 => by
    by_cases c : cnd q (-1) b (o r) ∧ (lik pr fa sp q o b calm p r).2 < wpl pr fa sp q o p r
    · exact Or.inr ⟨r, Nat.lt_succ_self r, c.1, lkp_y c, by rw [lik_y c.1 c.2]⟩
    · rw [lkp_n c, lik_n c]
      rcases lkp_lik (pr := pr) (fa := fa) (sp := sp) (q := q) (o := o) (b := b) (calm := calm) (p := p) r with h | ⟨r', h1, h2⟩
      · exact Or.inl h
      · exact Or.inr ⟨r', Nat.lt_succ_of_lt h1, h2⟩
noncomputable def fsP (pr fa sp : Nat → Int) (q : Nat → Nat → Int) (o : Nat → Nat) (b calm : Int) : Nat → Nat → Nat
  | 0, p => p
  | f + 1, p => match lkp pr fa sp q o b calm p p with
    | none => p
    | some r => fsP pr fa sp q o b calm f r
noncomputable def dpP (pr fa sp : Nat → Int) (q : Nat → Nat → Int) (o : Nat → Nat) (b calm : Int) : Nat → Nat → Nat
  | 0, _ => 0
  | f + 1, p => match lkp pr fa sp q o b calm p p with
    | none => 0
    | some r => dpP pr fa sp q o b calm f r + 1
theorem lkp_some {pr fa sp : Nat → Int} {q : Nat → Nat → Int} {o : Nat → Nat} {b calm : Int} {p r' : Nat} (h : lkp pr fa sp q o b calm p p = some r') : r' < p ∧ cnd q (-1) b (o r') ∧ (lik pr fa sp q o b calm p p).1 = ((o r' : Nat) : Int) := by
  rcases lkp_lik (pr := pr) (fa := fa) (sp := sp) (q := q) (o := o) (b := b) (calm := calm) (p := p) p with ⟨h1, -⟩ | ⟨r, h1, h2, h3, h4⟩
  · rw [h1] at h; cases h
  · rw [h3] at h; cases h; exact ⟨h1, h2, h4⟩
theorem fsP_fuel {pr fa sp : Nat → Int} {q : Nat → Nat → Int} {o : Nat → Nat} {b calm : Int} : ∀ f p, p ≤ f → fsP pr fa sp q o b calm f p = fsP pr fa sp q o b calm p p := by
  intro f
  induction f with
  | zero => intro p hp; rw [show p = 0 by omega]
  | succ f ih =>
    intro p hp
    cases p with
    | zero =>
      rw [fsP, fsP]
      rfl
    | succ p =>
      rw [fsP, fsP]
      cases hl : lkp pr fa sp q o b calm (p + 1) (p + 1) with
      | none => rfl
      | some r =>
        have hr := (lkp_some hl).1
        show fsP pr fa sp q o b calm f r = fsP pr fa sp q o b calm p r
        rw [ih r (by omega)]
        by_cases e : p = f
        · rw [e, ih r (by omega)]
        · have := ih p (by omega)
          clear this
          exact (Nat.lt_wfRel.wf.induction (C := fun p => ∀ r, r ≤ p → fsP pr fa sp q o b calm p r = fsP pr fa sp q o b calm r r) p (fun p ihp r hr => by
            cases p with
            | zero => rw [show r = 0 by omega]
            | succ p =>
              cases r with
              | zero => rw [fsP, fsP]; rfl
              | succ r =>
                rw [fsP, fsP]
                cases hl2 : lkp pr fa sp q o b calm (r + 1) (r + 1) with
                | none => rfl
                | some r2 =>
                  have hr2 := (lkp_some hl2).1
                  show fsP pr fa sp q o b calm p r2 = fsP pr fa sp q o b calm r r2
                  rw [ihp p (Nat.lt_succ_self p) r2 (by omega), ihp r (by show r < p + 1; omega) r2 (by omega)]) r (by omega)).symm
theorem dpP_fuel {pr fa sp : Nat → Int} {q : Nat → Nat → Int} {o : Nat → Nat} {b calm : Int} : ∀ p r, r ≤ p → dpP pr fa sp q o b calm p r = dpP pr fa sp q o b calm r r := by
  intro p
  exact Nat.lt_wfRel.wf.induction (C := fun p => ∀ r, r ≤ p → dpP pr fa sp q o b calm p r = dpP pr fa sp q o b calm r r) p (fun p ihp r hr => by
    cases p with
    | zero => rw [show r = 0 by omega]
    | succ p =>
      cases r with
      | zero => rw [dpP, dpP]; rfl
      | succ r =>
        rw [dpP, dpP]
        cases hl2 : lkp pr fa sp q o b calm (r + 1) (r + 1) with
        | none => rfl
        | some r2 =>
          have hr2 := (lkp_some hl2).1
          show dpP pr fa sp q o b calm p r2 + 1 = dpP pr fa sp q o b calm r r2 + 1
          rw [ihp p (Nat.lt_succ_self p) r2 (by omega), ihp r (by show r < p + 1; omega) r2 (by omega)])
/-- one step up -/
theorem fs_up {pr fa sp : Nat → Int} {q : Nat → Nat → Int} {o : Nat → Nat} {b calm : Int} {p r : Nat} (h : lkp pr fa sp q o b calm p p = some r) : fsP pr fa sp q o b calm p p = fsP pr fa sp q o b calm r r ∧ dpP pr fa sp q o b calm p p = dpP pr fa sp q o b calm r r + 1 := by
  have hr := (lkp_some h).1
  obtain ⟨m, rfl⟩ : ∃ m, p = m + 1 := ⟨p - 1, by omega⟩
  constructor
  · rw [fsP, h]
    exact fsP_fuel m r (by omega)
  · rw [dpP, h]
    show dpP pr fa sp q o b calm m r + 1 = _
    rw [dpP_fuel m r (by omega)]
theorem fs_top {pr fa sp : Nat → Int} {q : Nat → Nat → Int} {o : Nat → Nat} {b calm : Int} {p : Nat} (h : lkp pr fa sp q o b calm p p = none) : fsP pr fa sp q o b calm p p = p ∧ dpP pr fa sp q o b calm p p = 0 := by
  cases p with
  | zero => exact ⟨rfl, rfl⟩
  | succ p =>
    constructor
    · rw [fsP, h]
    · rw [dpP, h]
/-- the walk up, as the reference does it -/
theorem lik_c {pr fa sp : Nat → Int} {q : Nat → Nat → Int} {o : Nat → Nat} {b calm : Int} (p : Nat) : ((lik pr fa sp q o b calm p p).1 = -6 ∧ lkp pr fa sp q o b calm p p = none) ∨ ∃ r, r < p ∧ cnd q (-1) b (o r) ∧ (lik pr fa sp q o b calm p p).1 = ((o r : Nat) : Int) ∧ lkp pr fa sp q o b calm p p = some r := by
  rcases lkp_lik (pr := pr) (fa := fa) (sp := sp) (q := q) (o := o) (b := b) (calm := calm) (p := p) p with ⟨h1, h2⟩ | ⟨r, h1, h2, h3, h4⟩
  · exact Or.inl ⟨h2, h1⟩
  · exact Or.inr ⟨r, h1, h2, h4, h3⟩
