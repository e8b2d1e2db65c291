/-- a cell is named among the overwritten ones, unchanged -/
theorem wp_own {K : KT} {nL : Nat} {Q : State → Prop} {cs : Nat × Nat} {pc r : Nat} {lv : List (Nat × PV)} {stk : List PV} {hp hp2 : PH} {c : PC} (ho : hget hp r = some c) (he : hset hp r c = hp2) (k : Wp K nL Q cs pc lv stk hp2) : Wp K nL Q cs pc lv stk hp := by
  subst he
  refine wp_heap (hq := hset hp r c) rfl (fun j => ?_) k
  rw [hget_hset]
  by_cases e : r = j
  · rw [if_pos e, ← e, ho]
  · rw [if_neg e]
/-! the place of a new one -/
def insP (dd : Nat → Int) (o : Nat → Nat) (d : Int) : Nat → Nat
  | 0 => 0
  | k + 1 => if d < dd (o k) then insP dd o d k else k + 1
def shO (o : Nat → Nat) (k n r : Nat) : Nat := if k < r ∧ r ≤ n then o (r - 1) else o r
def insO (dd : Nat → Int) (o : Nat → Nat) (d : Int) (n : Nat) : Nat → Nat := fup (shO o (insP dd o d n) n) (insP dd o d n) n
theorem shO_top (o : Nat → Nat) (n : Nat) : (fun p => ((o p : Nat) : Int)) = fun r => ((shO o n n r : Nat) : Int) := by
  funext r
  simp only [shO]
  rw [if_neg (by omega)]
theorem shO_at (o : Nat → Nat) {k n : Nat} (hk : 0 < k) : shO o k n (k - 1) = o (k - 1) := by
  simp only [shO]
  rw [if_neg (by omega)]
theorem shO_step (o : Nat → Nat) {k n : Nat} (hk : 0 < k) (hn : k ≤ n) : fup (fun r => ((shO o k n r : Nat) : Int)) k ((shO o k n (k - 1) : Nat) : Int) = fun r => ((shO o (k - 1) n r : Nat) : Int) := by
  funext r
  rw [shO_at o hk]
  by_cases e : r = k
  · subst e
    rw [fup_self]
    simp only [shO]
    rw [if_pos (by omega)]
  · rw [fup_ne _ _ e]
    simp only [shO]
    by_cases c : k < r ∧ r ≤ n
    · rw [if_pos c, if_pos (by omega)]
    · rw [if_neg c, if_neg (by omega)]
theorem insP_step {dd : Nat → Int} {o : Nat → Nat} {d : Int} {k : Nat} (hk : 0 < k) (h : d < dd (o (k - 1))) : insP dd o d (k - 1) = insP dd o d k := by
  obtain ⟨m, rfl⟩ : ∃ m, k = m + 1 := ⟨k - 1, by omega⟩
  have h2 : d < dd (o m) := h
  rw [insP, if_pos h2]
  rfl
theorem insP_end {dd : Nat → Int} {o : Nat → Nat} {d : Int} {k : Nat} (h : k = 0 ∨ dd (o (k - 1)) ≤ d) : insP dd o d k = k := by
  cases k with
  | zero => rfl
  | succ m =>
    rw [insP, if_neg]
    rcases h with h | h
    · cases h
    · exact Int.not_lt.mpr h
theorem insO_fin {dd : Nat → Int} {o : Nat → Nat} {d : Int} {n k : Nat} (hi : insP dd o d k = insP dd o d n) (h : k = 0 ∨ dd (o (k - 1)) ≤ d) : fup (fun r => ((shO o k n r : Nat) : Int)) k ((n : Nat) : Int) = fun r => ((insO dd o d n r : Nat) : Int) := by
  have e : insP dd o d n = k := by rw [← hi, insP_end h]
  funext r
  unfold insO
  rw [e]
  by_cases c : r = k
  · subst c
    rw [fup_self, fup_self]
  · rw [fup_ne _ _ c, fup_ne _ _ c]
theorem insP_le (dd : Nat → Int) (o : Nat → Nat) (d : Int) : ∀ k, insP dd o d k ≤ k
  | 0 => Nat.le_refl _
  | k + 1 => by
    rw [insP]
    split
    · exact Nat.le_succ_of_le (insP_le dd o d k)
    · exact Nat.le_refl _
theorem ahd_ne {q : Nat → Nat → Int} {i j : Nat} (h : ahd q i j) : i ≠ j := by
  intro e
  subst e
  rcases h with h | h <;> omega
theorem fup_r {f : Nat → Int} {k : Nat} {v : Int} (hv : r32 v) (hf : ∀ j, j < k → r32 (f j)) : ∀ j, j ≤ k → r32 (fup f k v j) := by
  intro j hj
  by_cases e : j = k
  · rw [e, fup_self]; exact hv
  · rw [fup_ne _ _ e]; exact hf j (by omega)
