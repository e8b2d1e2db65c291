theorem wt_in {w : Cond} (h : w ∈ WT) : w ∈ lw_tbl := (List.mem_filter.mp h).1
theorem st_cls {s : State} {A : Array Value} (hts : ∀ w ∈ lw_tbl, w.before A s = true) : ∀ ci : Nat, ∃ (c : ClassId) (iS : Nat → Nat), ∀ q, vwCl[ci]? = some q → u_Kn s q.1 q.2.1 q.2.2 c iS := by
  have htsW : ∀ w ∈ WT, w.before A s = true := fun w hw => hts w (wt_in hw)
  intro ci
  by_cases h10 : ci < 10
  · rcases (show ci = 0 ∨ ci = 1 ∨ ci = 2 ∨ ci = 3 ∨ ci = 4 ∨ ci = 5 ∨ ci = 6 ∨ ci = 7 ∨ ci = 8 ∨ ci = 9 by omega) with rfl | rfl | rfl | rfl | rfl | rfl | rfl | rfl | rfl | rfl
    · obtain ⟨q, hq, hin, -, -⟩ := cOk0
      cases hq
      obtain ⟨c, iS, hK⟩ := u_known (n := 1) htsW hin (htsW _ (wt_at 236 (by decide +kernel) (by decide +kernel)))
      exact ⟨c, iS, fun q2 h2 => by cases h2; exact hK⟩
    · obtain ⟨q, hq, hin, -, -⟩ := cOk1
      cases hq
      obtain ⟨c, iS, hK⟩ := u_known (n := 6) htsW hin (htsW _ (wt_at 726 (by decide +kernel) (by decide +kernel)))
      exact ⟨c, iS, fun q2 h2 => by cases h2; exact hK⟩
    · obtain ⟨q, hq, hin, -, -⟩ := cOk2
      cases hq
      obtain ⟨c, iS, hK⟩ := u_known (n := 13) htsW hin (htsW _ (wt_at 300 (by decide +kernel) (by decide +kernel)))
      exact ⟨c, iS, fun q2 h2 => by cases h2; exact hK⟩
    · obtain ⟨q, hq, hin, -, -⟩ := cOk3
      cases hq
      obtain ⟨c, iS, hK⟩ := u_known (n := 14) htsW hin (htsW _ (wt_at 182 (by decide +kernel) (by decide +kernel)))
      exact ⟨c, iS, fun q2 h2 => by cases h2; exact hK⟩
    · obtain ⟨q, hq, hin, -, -⟩ := cOk4
      cases hq
      obtain ⟨c, iS, hK⟩ := u_known (n := 5) htsW hin (htsW _ (wt_at 246 (by decide +kernel) (by decide +kernel)))
      exact ⟨c, iS, fun q2 h2 => by cases h2; exact hK⟩
    · obtain ⟨q, hq, hin, -, -⟩ := cOk5
      cases hq
      obtain ⟨c, iS, hK⟩ := u_known (n := 9) htsW hin (htsW _ (wt_at 113 (by decide +kernel) (by decide +kernel)))
      exact ⟨c, iS, fun q2 h2 => by cases h2; exact hK⟩
    · obtain ⟨q, hq, hin, -, -⟩ := cOk6
      cases hq
      obtain ⟨c, iS, hK⟩ := u_known (n := 2) htsW hin (htsW _ (wt_at 286 (by decide +kernel) (by decide +kernel)))
      exact ⟨c, iS, fun q2 h2 => by cases h2; exact hK⟩
    · obtain ⟨q, hq, hin, -, -⟩ := cOk7
      cases hq
      obtain ⟨c, iS, hK⟩ := u_known (n := 2) htsW hin (htsW _ (wt_at 270 (by decide +kernel) (by decide +kernel)))
      exact ⟨c, iS, fun q2 h2 => by cases h2; exact hK⟩
    · obtain ⟨q, hq, hin, -, -⟩ := cOk8
      cases hq
      obtain ⟨c, iS, hK⟩ := u_known (n := 10) htsW hin (htsW _ (wt_at 105 (by decide +kernel) (by decide +kernel)))
      exact ⟨c, iS, fun q2 h2 => by cases h2; exact hK⟩
    · obtain ⟨q, hq, hin, -, -⟩ := cOk9
      cases hq
      obtain ⟨c, iS, hK⟩ := u_known (n := 34) htsW hin (htsW _ (wt_at 931 (by decide +kernel) (by decide +kernel)))
      exact ⟨c, iS, fun q2 h2 => by cases h2; exact hK⟩
  · exact ⟨(0 : Nat), fun _ => 0, fun q h => by rw [List.getElem?_eq_none (by show 10 ≤ ci; omega)] at h; cases h⟩
theorem arr_of {s : State} {c comp : ClassId} {k : Class} {ty : FieldType} (h1 : s.vm.classes[c]? = some k) (h2 : k.kind = .array comp ty) : ArrOfT s c ty := fun n z => ⟨fun x h => (by cases h), k, h1, comp, h2⟩
theorem st_arr {s : State} {A : Array Value} (hts : ∀ w ∈ lw_tbl, w.before A s = true) : ∀ t : Nat, ∃ c : ClassId, t < 6 → ArrOfT s c (aTy.getD t .int) ∧ va_RA s c (aTy.getD t .int) := by
  have htsW : ∀ w ∈ WT, w.before A s = true := fun w hw => hts w (wt_in hw)
  intro t
  by_cases h6 : t < 6
  · rcases (show t = 0 ∨ t = 1 ∨ t = 2 ∨ t = 3 ∨ t = 4 ∨ t = 5 by omega) with rfl | rfl | rfl | rfl | rfl | rfl
    · obtain ⟨c, k, comp, h1, h2, h3⟩ := Cond.arrayClass_spec (type := .int) (htsW _ (wt_at 179 (by decide +kernel) (by decide +kernel)))
      exact ⟨c, fun _ => ⟨arr_of h2 h3, h1⟩⟩
    · obtain ⟨c, k, comp, h1, h2, h3⟩ := Cond.arrayClass_spec (type := .boolean) (htsW _ (wt_at 180 (by decide +kernel) (by decide +kernel)))
      exact ⟨c, fun _ => ⟨arr_of h2 h3, h1⟩⟩
    · obtain ⟨c, k, comp, h1, h2, h3⟩ := Cond.arrayClass_spec (type := .long) (htsW _ (wt_at 234 (by decide +kernel) (by decide +kernel)))
      exact ⟨c, fun _ => ⟨arr_of h2 h3, h1⟩⟩
    · obtain ⟨comp, c, k, h1, h2, h3, h4, h5⟩ := arrayOverA_spec (t := .long) (hts _ (List.mem_of_getElem? (i := 188) (by decide +kernel)))
      exact ⟨c, fun _ => ⟨arr_of h3 h4, h5⟩⟩
    · obtain ⟨comp, c, k, h1, h2, h3, h4, h5⟩ := arrayOverA_spec (t := .int) (hts _ (List.mem_of_getElem? (i := 306) (by decide +kernel)))
      exact ⟨c, fun _ => ⟨arr_of h3 h4, h5⟩⟩
    · obtain ⟨comp, c, k, h1, h2, h3, h4, h5⟩ := Cond.arrayOver_spec (hts (.arrayOver (.object RX1)) (List.mem_of_getElem? (i := 284) (by decide +kernel)))
      exact ⟨c, fun _ => ⟨arr_of h3 h4, k, comp, h3, h4, h1, h5⟩⟩
  · exact ⟨(0 : Nat), fun h => absurd h h6⟩
theorem nest_on {w : Cond} (h : nestW w = true) : w.onTables = true := by
  cases w <;> first | rfl | (simp [nestW] at h)
theorem st_sv {s : State} {A : Array Value} {g : GT} (hg : g.1 = s.heap.size) (hts : ∀ w ∈ lw_tbl, w.before A s = true) (hgv : (Jvm.Cond.and given_1 narrow_1).before A s = true) : Sv g s s.heap := by
  have hs := flat_of_before _ hgv
  have hA : ∀ a : Nat, a < s.heap.size → ¬ Ag g a := fun a ha => by
    show ¬ g.1 ≤ a
    rw [hg]
    omega
  intro i hi
  rcases (show i = 0 ∨ i = 1 ∨ i = 2 by omega) with rfl | rfl | rfl
  · obtain ⟨t, h1, h2⟩ := va_Tof (tm := .static "QuakeLists" "SET_LEAST" "[I") (ty := .int) (N := 5) (f := fun j => .int (Int32.ofInt ((stTab 0).2.2.2.2.2 j))) (A := Ag g) (by decide) (hs _ (by decide +kernel)) (va_eqt (hs _ (by decide +kernel))) (fun j hj => by
      rcases (show j = 0 ∨ j = 1 ∨ j = 2 ∨ j = 3 ∨ j = 4 by omega) with rfl | rfl | rfl | rfl | rfl
      · exact va_eqt (z := 0) (hs _ (by decide +kernel))
      · exact va_eqt (z := 0) (hs _ (by decide +kernel))
      · exact va_eqt (z := 0) (hs _ (by decide +kernel))
      · exact va_eqt (z := 1) (hs _ (by decide +kernel))
      · exact va_eqt (z := 0) (hs _ (by decide +kernel))) hA
    exact ⟨t, va_Zof (hts (.laysStatic "QuakeLists" "SET_LEAST" "[I") (List.mem_of_getElem? (i := 440) (by decide +kernel))) (hts (.initialized "QuakeLists") (List.mem_of_getElem? (i := 92) (by decide +kernel))) h1 hA, h2⟩
  · obtain ⟨t, h1, h2⟩ := va_Tof (tm := .static "QuakeLists" "SET_MOST" "[I") (ty := .int) (N := 5) (f := fun j => .int (Int32.ofInt ((stTab 1).2.2.2.2.2 j))) (A := Ag g) (by decide) (hs _ (by decide +kernel)) (va_eqt (hs _ (by decide +kernel))) (fun j hj => by
      rcases (show j = 0 ∨ j = 1 ∨ j = 2 ∨ j = 3 ∨ j = 4 by omega) with rfl | rfl | rfl | rfl | rfl
      · exact va_eqt (z := 10) (hs _ (by decide +kernel))
      · exact va_eqt (z := 5) (hs _ (by decide +kernel))
      · exact va_eqt (z := 20) (hs _ (by decide +kernel))
      · exact va_eqt (z := 100000) (hs _ (by decide +kernel))
      · exact va_eqt (z := 20) (hs _ (by decide +kernel))) hA
    exact ⟨t, va_Zof (hts (.laysStatic "QuakeLists" "SET_MOST" "[I") (List.mem_of_getElem? (i := 442) (by decide +kernel))) (hts (.initialized "QuakeLists") (List.mem_of_getElem? (i := 92) (by decide +kernel))) h1 hA, h2⟩
  · obtain ⟨t, h1, h2⟩ := va_Tof (tm := .static "QuakeLists$Signs" "ENDS" "[C") (ty := .char) (N := 4) (f := fun j => .int (Int32.ofInt ((stTab 2).2.2.2.2.2 j))) (A := Ag g) (by decide) (hs _ (by decide +kernel)) (va_eqt (hs _ (by decide +kernel))) (fun j hj => by
      rcases (show j = 0 ∨ j = 1 ∨ j = 2 ∨ j = 3 by omega) with rfl | rfl | rfl | rfl
      · exact va_eqt (z := 44) (hs _ (by decide +kernel))
      · exact va_eqt (z := 62) (hs _ (by decide +kernel))
      · exact va_eqt (z := 58) (hs _ (by decide +kernel))
      · exact va_eqt (z := 59) (hs _ (by decide +kernel))) hA
    exact ⟨t, va_Zof (hts (.laysStatic "QuakeLists$Signs" "ENDS" "[C") (List.mem_of_getElem? (i := 716) (by decide +kernel))) (hts (.initialized "QuakeLists$Signs") (List.mem_of_getElem? (i := 97) (by decide +kernel))) h1 hA, h2⟩
