/-! the quakes' cells in the class: n quakes; q 0 list, 1 day, 2 x, 3 y, 4 greatness, 5 told, 6 blast; o the order -/
def isQ (h : Nat → Option PC) (n : Nat) (q : Nat → Nat → Int) (o : Nat → Nat) : Prop :=
  h 2 = some (oO 5 [zI ((n : Nat) : Int), zR 3, zR 4, zR 5, zR 6, zR 7, zR 8, zR 9, zR 10]) ∧ h 3 = some (oA 0 40 (q 0)) ∧ h 4 = some (oA 0 40 (q 1)) ∧ h 5 = some (oA 0 40 (q 2)) ∧ h 6 = some (oA 0 40 (q 3)) ∧ h 7 = some (oA 0 40 (q 4)) ∧ h 8 = some (oA 0 40 (q 5)) ∧ h 9 = some (oA 1 40 (q 6)) ∧ h 10 = some (oA 0 40 (fun p => ((o p : Nat) : Int)))
/-- what holds of every quake -/
def okJ (q : Nat → Nat → Int) (j : Nat) : Prop := (0 ≤ q 0 j ∧ q 0 j ≤ 2) ∧ (0 ≤ q 1 j ∧ q 1 j ≤ 3999) ∧ (0 ≤ q 2 j ∧ q 2 j ≤ 15) ∧ (0 ≤ q 3 j ∧ q 3 j ≤ 15) ∧ (0 ≤ q 4 j ∧ q 4 j ≤ 90) ∧ (q 1 j ≤ q 5 j ∧ q 5 j ≤ 3999) ∧ (q 6 j = 0 ∨ q 6 j = 1)
/-- i stands ahead of j -/
def ahd (q : Nat → Nat → Int) (i j : Nat) : Prop := q 1 i < q 1 j ∨ (q 1 i = q 1 j ∧ i < j)
/-- the order: every place holds a quake, places are apart, and by days, then numbers -/
def okO (n : Nat) (q : Nat → Nat → Int) (o : Nat → Nat) : Prop := (∀ p, p < n → o p < n) ∧ (∀ p r, p < r → r < n → ahd q (o p) (o r)) ∧ (∀ j, j < n → ∃ p, p < n ∧ o p = j)
def okQ (n : Nat) (q : Nat → Nat → Int) (o : Nat → Nat) : Prop := n ≤ 40 ∧ (∀ j, j < n → okJ q j) ∧ okO n q o
theorem okQ.l {n : Nat} {q : Nat → Nat → Int} {o : Nat → Nat} (h : okQ n q o) (j : Nat) (hj : j < n) : 0 ≤ q 0 j ∧ q 0 j ≤ 2 := (h.2.1 j hj).1
theorem okQ.d {n : Nat} {q : Nat → Nat → Int} {o : Nat → Nat} (h : okQ n q o) (j : Nat) (hj : j < n) : 0 ≤ q 1 j ∧ q 1 j ≤ 3999 := (h.2.1 j hj).2.1
theorem okQ.x {n : Nat} {q : Nat → Nat → Int} {o : Nat → Nat} (h : okQ n q o) (j : Nat) (hj : j < n) : 0 ≤ q 2 j ∧ q 2 j ≤ 15 := (h.2.1 j hj).2.2.1
theorem okQ.y {n : Nat} {q : Nat → Nat → Int} {o : Nat → Nat} (h : okQ n q o) (j : Nat) (hj : j < n) : 0 ≤ q 3 j ∧ q 3 j ≤ 15 := (h.2.1 j hj).2.2.2.1
theorem okQ.g {n : Nat} {q : Nat → Nat → Int} {o : Nat → Nat} (h : okQ n q o) (j : Nat) (hj : j < n) : 0 ≤ q 4 j ∧ q 4 j ≤ 90 := (h.2.1 j hj).2.2.2.2.1
theorem okQ.t {n : Nat} {q : Nat → Nat → Int} {o : Nat → Nat} (h : okQ n q o) (j : Nat) (hj : j < n) : q 1 j ≤ q 5 j ∧ q 5 j ≤ 3999 ∧ 0 ≤ q 5 j := ⟨(h.2.1 j hj).2.2.2.2.2.1.1, (h.2.1 j hj).2.2.2.2.2.1.2, by have := (h.2.1 j hj).2.2.2.2.2.1; have := (h.2.1 j hj).2.1; omega⟩
theorem okQ.b {n : Nat} {q : Nat → Nat → Int} {o : Nat → Nat} (h : okQ n q o) (j : Nat) (hj : j < n) : q 6 j = 0 ∨ q 6 j = 1 := (h.2.1 j hj).2.2.2.2.2.2
theorem okQ.o {n : Nat} {q : Nat → Nat → Int} {o : Nat → Nat} (h : okQ n q o) (p : Nat) (hp : p < n) : o p < n := h.2.2.1 p hp
/-- how many below k -/
noncomputable def cntZ (P : Nat → Prop) : Nat → Int
  | 0 => 0
  | k + 1 => cntZ P k + bt (P k)
theorem cntZ_y {P : Nat → Prop} {k : Nat} (h : P k) : cntZ P (k + 1) = cntZ P k + 1 := by rw [cntZ, bt_1 h]
theorem cntZ_n {P : Nat → Prop} {k : Nat} (h : ¬ P k) : cntZ P (k + 1) = cntZ P k := by rw [cntZ, bt_0 h]; omega
theorem cntZ_r (P : Nat → Prop) : ∀ k, 0 ≤ cntZ P k ∧ cntZ P k ≤ (k : Int)
  | 0 => ⟨Int.le_refl _, Int.le_refl _⟩
  | k + 1 => by
    have h := cntZ_r P k
    rcases bt_01 (P k) with e | e <;> rw [cntZ, e] <;> omega
theorem cntZ_congr {P R : Nat → Prop} : ∀ k, (∀ j, j < k → (P j ↔ R j)) → cntZ P k = cntZ R k
  | 0, _ => rfl
  | k + 1, h => by rw [cntZ, cntZ, cntZ_congr k (fun j hj => h j (Nat.lt_succ_of_lt hj)), bt_iff (h k (Nat.lt_succ_self k))]
/-- counted: no blast, of the list (-1: of all), known -/
def cnd (q : Nat → Nat → Int) (a b : Int) (j : Nat) : Prop := q 6 j = 0 ∧ q 5 j ≤ b ∧ (a = -1 ∨ q 0 j = a)
def grt (q : Nat → Nat → Int) (m : Int) (j : Nat) : Prop := q 6 j = 0 ∧ m ≤ q 4 j
