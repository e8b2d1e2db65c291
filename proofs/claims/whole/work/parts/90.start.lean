theorem whole_start {p : Program} {e : Env} {s : State} {m : MethodId} {below : List Frame} {meth : Method} {c : Code} (l : Launch) {b L : Nat} {xs : Nat → Int32} (hL : L ≤ 3584) (C0 : lw_At p s m meth c b L xs) : W p l e room_1 s m #[Value.ref b] below meth c s.heap [] 0 0 (lw_Z below #[Value.ref b] s) (entryFrame m ([Value.ref b] : List Value).toArray 4) := by
  obtain ⟨hx, hb, hr, hml, hown, hts, hX, hbl, hlocks, hgv⟩ := id C0
  have htsW : ∀ w ∈ WT, w.before #[Value.ref b] s = true := fun w hw => hts w (wt_in hw)
  have hc := st_cls hts
  have ha := st_arr hts
  obtain ⟨dC, hdC⟩ : ∃ dC : Nat → ClassId, ∀ k, ∃ iS : Nat → Nat, ∀ q, vwCl[k]? = some q → u_Kn s q.1 q.2.1 q.2.2 (dC k) iS := ⟨fun k => (hc k).choose, fun k => (hc k).choose_spec⟩
  obtain ⟨dI, hdI⟩ : ∃ dI : Nat → Nat → Nat, ∀ k, ∀ q, vwCl[k]? = some q → u_Kn s q.1 q.2.1 q.2.2 (dC k) (dI k) := ⟨fun k => (hdC k).choose, fun k => (hdC k).choose_spec⟩
  obtain ⟨dA, hdA⟩ : ∃ dA : Nat → ClassId, ∀ t, t < 6 → ArrOfT s (dA t) (aTy.getD t .int) ∧ va_RA s (dA t) (aTy.getD t .int) := ⟨fun t => (ha t).choose, fun t => (ha t).choose_spec⟩
  have hEv : Ev (s.heap.size, (dC, dI), dA) s := by
    refine ⟨⟨hdI, fun k q hk => ?_⟩, fun w hw hn => va_Nw.of (nest_on hn) (hts w hw), va_AO.of (hts (.arrayOver (.object RX1)) (List.mem_of_getElem? (i := 284) (by decide +kernel))), hts (.arrayOver (.array .long)) (List.mem_of_getElem? (i := 188) (by decide +kernel)), hts (.arrayOver (.array .int)) (List.mem_of_getElem? (i := 306) (by decide +kernel))⟩
    rw [List.getElem?_map] at hk
    by_cases h6 : k < 6
    · rw [List.getElem?_range h6] at hk
      cases hk
      exact hdA k h6
    · rw [List.getElem?_eq_none (by rw [List.length_range]; omega)] at hk
      cases hk
  have hSv : Sv (s.heap.size, (dC, dI), dA) s s.heap := st_sv rfl hts hgv
  have G : GL (p, l, e, room_1, s, m, #[Value.ref b], below, meth, c, (s.heap.size, (dC, dI), dA)) b L xs := ⟨⟨hx, hb, hml, hown, htsW, hEv, hSv, hlocks, Nat.le_refl _⟩, hX, hbl, hL, rfl, rfl⟩
  have kend : ∀ (i : Nat) (cs : Nat × Nat) (hp : PH), cs.1 ≤ room_1.cells → cs.2 ≤ room_1.slots → WpB (p, l, e, room_1, s, m, #[Value.ref b], below, meth, c, (s.heap.size, (dC, dI), dA)) b i (lw_Z below #[Value.ref b] s) cs 1606 [] hp := by
    intro i cs hp e1 e2 H locs ls h1 h2 h3
    refine lv_iconst (v := 1) hx hb dL_law_1606.1 (by decide) ?_
    refine va_forget (fun q hq => h2.2.2 q hq) ?_
    refine W.widen e1 e2 ?_
    exact lw_ret hx hb hr hlocks dL_law_1607.1
  have hl := lv_entry ([.ref b]) (n := 4) (Nat.le_of_ble_eq_true rfl)
  rw [lg_entry_eq]
  generalize (lg_sl ([.ref b]) ++ List.replicate (4 - (lg_sl ([.ref b])).length) Slot.unset).toArray = ls at hl ⊢
  have hl : lv_has ls 4 [(0, .ref b)] := hl
  exact law_front G kend s.heap [] ls ⟨rfl, fun k c h => by cases h⟩ va_S.rf hl
