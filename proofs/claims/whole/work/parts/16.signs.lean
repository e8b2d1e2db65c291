/-! signs: the state of the reading ahead of place i: which number of a rule, how many digits -/
def mrk (k : Nat) : Int := if k = 0 then 44 else if k = 1 then 62 else if k = 2 then 58 else 59
def leZ (j : Nat) : Int := if j = 3 then 1 else 0
def moZ (j : Nat) : Int := if j = 0 then 10 else if j = 1 then 5 else if j = 2 then 20 else if j = 3 then 100000 else 20
theorem mrk_c (k : Nat) : mrk k = 44 ∨ mrk k = 62 ∨ mrk k = 58 ∨ mrk k = 59 := by
  unfold mrk
  split
  · omega
  · split
    · omega
    · split <;> omega
theorem wp_stabE {K : KT} {nL : Nat} {Q : State → Prop} {cs : Nat × Nat} {pc pc' : Nat} {lv : List (Nat × PV)} {stk : List PV} {hp : PH} {cc : ByteArray} {own : String} (G : Gd K cc own nL) (i : Nat) (hi : i < 3) {idx p2 p3 j jl : Nat} {z v : Int} {k : Fin 4} (hv : (stTab i).2.2.2.2.2 j = v) (hli : Cond.fieldLink own idx (stTab i).1 (stTab i).2.1 (stTab i).2.2.1 ∈ WT) (d1 : Dn cc pc (.getstatic idx) 3 p2) (d2 : Dn cc p2 (.iload_n k) 1 p3) (d3 : Dn cc p3 (if i = 2 then .caload else .iaload) 1 pc') (hl : lv[jl]? = some ((k : Nat), zI z)) (hz : z = (j : Int)) (hj : j < (stTab i).2.2.2.2.1) (kk : Wp K nL Q cs pc' lv (zI v :: stk) hp) : Wp K nL Q cs pc lv stk hp :=
  wp_stab G i hi hli d1 d2 d3 hl hz hj (by rw [hv]; exact kk)
def sEnd (sg : Nat → Int) (s : Nat × Nat) (i : Nat) : Prop := 0 < s.2 ∧ sg i = mrk s.1
def sGo (sg : Nat → Int) (s : Nat × Nat) (i : Nat) : Prop := (48 ≤ sg i ∧ sg i ≤ 57) ∧ s.2 < 4
noncomputable def fS (sg : Nat → Int) : Nat → Nat × Nat
  | 0 => (0, 0)
  | i + 1 => by classical exact if sEnd sg (fS sg i) i then (((fS sg i).1 + 1) % 4, 0) else ((fS sg i).1, (fS sg i).2 + 1)
theorem fS_y {sg : Nat → Int} {i : Nat} (h : sEnd sg (fS sg i) i) : fS sg (i + 1) = (((fS sg i).1 + 1) % 4, 0) := by rw [fS]; simp [h]
theorem fS_n {sg : Nat → Int} {i : Nat} (h : ¬ sEnd sg (fS sg i) i) : fS sg (i + 1) = ((fS sg i).1, (fS sg i).2 + 1) := by rw [fS]; simp [h]
def sBad (sg : Nat → Int) (i : Nat) : Prop := ¬ sGo sg (fS sg i) i ∧ ¬ sEnd sg (fS sg i) i
theorem fS_1 (sg : Nat → Int) : ∀ i, (fS sg i).1 < 4
  | 0 => by rw [fS]; omega
  | i + 1 => by
    have h := fS_1 sg i
    by_cases c : sEnd sg (fS sg i) i
    · rw [fS_y c]; exact Nat.mod_lt _ (by omega)
    · rw [fS_n c]; exact h
theorem fS_2 (sg : Nat → Int) : ∀ i, (∀ r, r < i → ¬ sBad sg r) → (fS sg i).2 ≤ 4
  | 0, _ => by rw [fS]; omega
  | i + 1, hb => by
    have h := fS_2 sg i (fun r hr => hb r (Nat.lt_succ_of_lt hr))
    by_cases c : sEnd sg (fS sg i) i
    · rw [fS_y c]; omega
    · rw [fS_n c]
      have := hb i (Nat.lt_succ_self i)
      unfold sBad at this
      have h2 : sGo sg (fS sg i) i := Classical.byContradiction fun z => this ⟨z, c⟩
      have := h2.2
      show (fS sg i).2 + 1 ≤ 4
      omega
/-- the fault of sc signs -/
noncomputable def fltZ (sg : Nat → Int) (sc : Nat) : Int := ifZ (∃ i, i < sc ∧ sBad sg i) (srch (sBad sg) (fun i => ((i : Nat) : Int)) sc) (ifZ ((fS sg sc).1 = 0 ∧ 0 < (fS sg sc).2) (-6) ((sc : Nat) : Int))
theorem flt_at {sg : Nat → Int} {sc k : Nat} (hk : k < sc) (hno : ∀ r, r < k → ¬ sBad sg r) (hb : sBad sg k) : fltZ sg sc = ((k : Nat) : Int) := by
  unfold fltZ
  rw [ifZ_y ⟨k, hk, hb⟩]
  exact srch_at (v := fun i => ((i : Nat) : Int)) hno hb (Int.natCast_nonneg _) sc hk
theorem flt_end {sg : Nat → Int} {sc : Nat} (hno : ∀ r, r < sc → ¬ sBad sg r) : fltZ sg sc = ifZ ((fS sg sc).1 = 0 ∧ 0 < (fS sg sc).2) (-6) ((sc : Nat) : Int) := by
  unfold fltZ
  rw [ifZ_n (fun ⟨i, h1, h2⟩ => hno i h1 h2)]
/-- what is told by the first of ru rules that fits -/
noncomputable def telF (R : Nat → Prop) (c : Nat → Int) (la : Int) (ru : Nat) : Nat → Int
  | 0 => min 1000 la
  | m + 1 => ifZ (R (ru - (m + 1))) (min 1000 (c (ru - (m + 1)))) (telF R c la ru m)
theorem tel_y {R : Nat → Prop} {c : Nat → Int} {la : Int} {ru k : Nat} (hk : k < ru) (h : R k) : telF R c la ru (ru - k) = min 1000 (c k) := by
  obtain ⟨m, hm⟩ : ∃ m, ru - k = m + 1 := ⟨ru - k - 1, by omega⟩
  have e : ru - (m + 1) = k := by omega
  rw [hm, telF, e, ifZ_y h]
theorem tel_n {R : Nat → Prop} {c : Nat → Int} {la : Int} {ru k : Nat} (hk : k < ru) (h : ¬ R k) : telF R c la ru (ru - k) = telF R c la ru (ru - (k + 1)) := by
  obtain ⟨m, hm⟩ : ∃ m, ru - k = m + 1 := ⟨ru - k - 1, by omega⟩
  have e : ru - (m + 1) = k := by omega
  rw [hm, telF, e, ifZ_n h, show ru - (k + 1) = m by omega]
/-- how many a rule of d days, m, sees for a day -/
noncomputable def hma (q : Nat → Nat → Int) (n : Nat) (dy m d : Int) : Int := cntZ (fun j => grt q m j ∧ q 5 j < d ∧ d - dy ≤ q 1 j) n
noncomputable def tld (q : Nat → Nat → Int) (n ru : Nat) (la : Int) (dy le mo ch : Nat → Int) (d : Int) : Int := telF (fun k => mo k < hma q n (dy k) (le k) d) ch la ru ru
def isF (h : Nat → Option PC) (r ru : Nat) (la : Int) (dy le mo ch : Nat → Int) : Prop := h r = some (oO 1 [zI ((ru : Nat) : Int), zI la, zR (r + 1), zR (r + 2), zR (r + 3), zR (r + 4)]) ∧ h (r + 1) = some (oA 0 5 dy) ∧ h (r + 2) = some (oA 0 5 le) ∧ h (r + 3) = some (oA 0 5 mo) ∧ h (r + 4) = some (oA 0 5 ch)
def okF (ru : Nat) (la : Int) (dy le mo ch : Nat → Int) : Prop := ru ≤ 5 ∧ (0 ≤ la ∧ la ≤ 9999) ∧ (∀ k, k < ru → 0 ≤ dy k ∧ dy k ≤ 9999) ∧ (∀ k, k < ru → 0 ≤ le k ∧ le k ≤ 9999) ∧ (∀ k, k < ru → 0 ≤ mo k ∧ mo k ≤ 9999) ∧ (∀ k, k < ru → 0 ≤ ch k ∧ ch k ≤ 9999)
theorem telF_b {R : Nat → Prop} {c : Nat → Int} {la : Int} {ru : Nat} (hl : 0 ≤ la) (hc : ∀ k, k < ru → 0 ≤ c k) : ∀ m, m ≤ ru → 0 ≤ telF R c la ru m ∧ telF R c la ru m ≤ 1000
  | 0, _ => by rw [telF]; omega
  | m + 1, hm => by
    have h := telF_b (R := R) hl hc m (by omega)
    by_cases z : R (ru - (m + 1))
    · rw [telF, ifZ_y z]
      have := hc (ru - (m + 1)) (by omega)
      omega
    · rw [telF, ifZ_n z]; exact h
theorem tld_b {q : Nat → Nat → Int} {n ru : Nat} {la : Int} {dy le mo ch : Nat → Int} (hf : okF ru la dy le mo ch) (d : Int) : 0 ≤ tld q n ru la dy le mo ch d ∧ tld q n ru la dy le mo ch d ≤ 1000 := telF_b hf.2.1.1 (fun k hk => (hf.2.2.2.2.2 k hk).1) ru (Nat.le_refl _)
