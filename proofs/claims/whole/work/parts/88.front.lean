theorem front_c {K : KT} {b L : Nat} {xs : Nat → Int32} {Q : State → Prop} (G : GL K b L xs) (kend : ∀ (i : Nat) (cs : Nat × Nat) (hp : PH), cs.1 ≤ room_1.cells → cs.2 ≤ room_1.slots → WpB K b i Q cs 1606 [] hp) {l2 : List (Nat × PC)} (hLI : LI 93 (hget (93, (fun _ => none : Nat → Option PC), l2))) : WpR K [(2, .ref ((kG K).1 + 64)), (1, .ref ((kG K).1 + 0)), (0, .ref b)] Q (93, 59948) 16 [] (93, (fun _ => none : Nat → Option PC), l2) := by
  refine wr_i0 (lv' := [(3, .int (Int32.ofInt 0)), (2, .ref ((kG K).1 + 64)), (1, .ref ((kG K).1 + 0)), (0, .ref b)]) G.1 dL_law_16 dL_law_17 rfl ?_
  have hwb := law_loop G kend (L + 1) 0 (93, 59948) (93, (fun _ => none : Nat → Option PC), l2) (by omega) (Nat.zero_le _) (by decide) (by decide) hLI
  exact fun H locs ls h1 h2 h3 => hwb H locs ls h1 h2 (lv_sub h3 [3, 2, 1, 0] rfl)
theorem LI_93 {l1 : List (Nat × PC)} {c : PC} {lb : List (Nat × PC)} (hlb : lb = ini10) (hC1 : LC (hget (64, (fun _ => none : Nat → Option PC), l1)) 0 (fun _ _ => 0) (fun _ => 0) (fup (fup (fup (fup (fup (fun _ => 0) 0 1) 1 1) 2 5) 3 100) 4 5) 0 (fun _ => 0) (fun _ => 0) (fun _ => 0) 0 (fun _ => 0) (fun _ _ => 0) (fun _ => 0) 0 (fun _ _ => 0) (fun _ => 0) (fun _ _ => 0) 0 (fun _ _ => 0)) : LI 93 (hget (93, (fun _ => none : Nat → Option PC), asets (aset l1 64 c) lb)) := by
  have e2 : hget (93, (fun _ => none : Nat → Option PC), asets (aset l1 64 c) lb) = hlk lb (hget (65, (fun _ => none : Nat → Option PC), aset l1 64 c)) := funext fun j => hlk_asets _ _ _ _
  rw [e2, hlb]
  refine ⟨0, (fun _ _ => 0), (fun _ => 0), (fup (fup (fup (fup (fup (fun _ => 0) 0 1) 1 1) 2 5) 3 100) 4 5), 0, (fun _ => 0), (fun _ => 0), (fun _ => 0), 0, (fun _ => 0), (fun _ _ => 0), (fun _ => 0), (fun _ => 0), 0, (fun _ _ => 0), (fun _ => 0), (fun _ _ => 0), 0, (fun _ _ => 0), LC_fr (fun k hk => ?_) hC1, LM_0, OKA_0, rfl⟩
  rw [hlk_in (l := ini10) rfl k hk]
  show hlk (aset l1 64 c) (fun _ => none : Nat → Option PC) k = hlk l1 (fun _ => none : Nat → Option PC) k
  rw [hlk_aset, if_neg (show ¬ (64 = k) by omega)]
theorem front_b {K : KT} {b L : Nat} {xs : Nat → Int32} {Q : State → Prop} (G : GL K b L xs) (kend : ∀ (i : Nat) (cs : Nat × Nat) (hp : PH), cs.1 ≤ room_1.cells → cs.2 ≤ room_1.slots → WpB K b i Q cs 1606 [] hp) {l1 : List (Nat × PC)} (hC1 : LC (hget (64, (fun _ => none : Nat → Option PC), l1)) 0 (fun _ _ => 0) (fun _ => 0) (fup (fup (fup (fup (fup (fun _ => 0) 0 1) 1 1) 2 5) 3 100) 4 5) 0 (fun _ => 0) (fun _ => 0) (fun _ => 0) 0 (fun _ => 0) (fun _ _ => 0) (fun _ => 0) 0 (fun _ _ => 0) (fun _ => 0) (fun _ _ => 0) 0 (fun _ _ => 0)) : WpR K [(1, .ref ((kG K).1 + 0)), (0, .ref b)] Q (64, 5796) 8 [] (64, (fun _ => none : Nat → Option PC), l1) := by
  have hroom : kR K = room_1 := G.2.2.2.2.1
  refine wr_new (fs := [zN, zN, zN, zN, zN, zN, zN, zI 0, zN, zN, zN, zN, zI 0, zI 0, zN, zN, zN, zN, zN, zN, zI 0, zN, zN, zN, zN, zN, zN, zI 0, zN, zN, zN, zN, zN, zI 0]) (n := 34) (ci := 9) G.1 cOk9 ⟨_, rfl, rfl, wt_at 930 (by decide +kernel) (by decide +kernel), wt_at 931 (by decide +kernel) (by decide +kernel), wt_at 100 (by decide +kernel) (by decide +kernel)⟩ dL_law_8 (fun sz j hj => by rcases (show j = 0 ∨ j = 1 ∨ j = 2 ∨ j = 3 ∨ j = 4 ∨ j = 5 ∨ j = 6 ∨ j = 7 ∨ j = 8 ∨ j = 9 ∨ j = 10 ∨ j = 11 ∨ j = 12 ∨ j = 13 ∨ j = 14 ∨ j = 15 ∨ j = 16 ∨ j = 17 ∨ j = 18 ∨ j = 19 ∨ j = 20 ∨ j = 21 ∨ j = 22 ∨ j = 23 ∨ j = 24 ∨ j = 25 ∨ j = 26 ∨ j = 27 ∨ j = 28 ∨ j = 29 ∨ j = 30 ∨ j = 31 ∨ j = 32 ∨ j = 33 by omega) with rfl | rfl | rfl | rfl | rfl | rfl | rfl | rfl | rfl | rfl | rfl | rfl | rfl | rfl | rfl | rfl | rfl | rfl | rfl | rfl | rfl | rfl | rfl | rfl | rfl | rfl | rfl | rfl | rfl | rfl | rfl | rfl | rfl | rfl <;> rfl) (by rw [hroom]; exact ⟨by decide, by decide⟩) ?_
  refine wr_dup G.1 dL_law_11 ?_
  refine wr_callI (mm := (28, 54118)) (b := 64) (as := []) (rest := [zR 64]) G.1 mX10_init lL_12 iX10_init rfl dL_law_12 rfl rfl (Nat.le_of_ble_eq_true rfl) (by rw [hroom]; exact ⟨by decide, by decide, by decide, by decide⟩) (t_X10_init (by rw [hget_hnew]; exact if_pos rfl)) (fun r nx2 l2 hq => ?_)
  obtain ⟨rfl, rfl, hl⟩ := hq
  refine wr_astore (lv' := [(2, .ref ((kG K).1 + 64)), (1, .ref ((kG K).1 + 0)), (0, .ref b)]) (r := 64) (stk := []) G.1 dL_law_15 rfl ?_
  exact front_c G kend (LI_93 hl hC1)
theorem law_front {K : KT} {b L : Nat} {xs : Nat → Int32} {Q : State → Prop} (G : GL K b L xs) (kend : ∀ (i : Nat) (cs : Nat × Nat) (hp : PH), cs.1 ≤ room_1.cells → cs.2 ≤ room_1.slots → WpB K b i Q cs 1606 [] hp) : WpR K [(0, .ref b)] Q (0, 0) 0 [] (0, (fun _ => none : Nat → Option PC), []) := by
  have hroom : kR K = room_1 := G.2.2.2.2.1
  refine wr_new (fs := [zN, zN, zN, zN, zN, zN, zN, zI 0, zN, zN]) (n := 10) (ci := 8) G.1 cOk8 ⟨_, rfl, rfl, wt_at 104 (by decide +kernel) (by decide +kernel), wt_at 105 (by decide +kernel) (by decide +kernel), wt_at 92 (by decide +kernel) (by decide +kernel)⟩ dL_law_0 (fun sz j hj => by rcases (show j = 0 ∨ j = 1 ∨ j = 2 ∨ j = 3 ∨ j = 4 ∨ j = 5 ∨ j = 6 ∨ j = 7 ∨ j = 8 ∨ j = 9 by omega) with rfl | rfl | rfl | rfl | rfl | rfl | rfl | rfl | rfl | rfl <;> rfl) (by rw [hroom]; exact ⟨by decide, by decide⟩) ?_
  refine wr_dup G.1 dL_law_3 ?_
  refine wr_callI (mm := (63, 5786)) (b := 0) (as := []) (rest := [zR 0]) G.1 mX9_init lL_9 iX9_init rfl dL_law_4 rfl rfl (Nat.le_of_ble_eq_true rfl) (by rw [hroom]; exact ⟨by decide, by decide, by decide, by decide⟩) (t_X9_init rfl) (fun r nx1 l1 hq => ?_)
  obtain ⟨rfl, rfl, hl⟩ := hq
  refine wr_astore (lv' := [(1, .ref ((kG K).1 + 0)), (0, .ref b)]) (r := 0) (stk := []) G.1 dL_law_7 rfl ?_
  refine front_b G kend ?_
  have e1 : ∀ c : PC, hget (64, (fun _ => none : Nat → Option PC), asets [(0, c)] l1) = hlk l1 (hlk [(0, c)] (fun _ => none : Nat → Option PC)) := fun c => funext fun j => hlk_asets _ _ _ _
  have hC := LC_0 (h := hlk [(0, oO 8 [zN, zN, zN, zN, zN, zN, zN, zI 0, zN, zN])] (fun _ => none : Nat → Option PC))
  have hl2 : l1 = ini9 := hl
  rw [← hl2, ← e1] at hC
  exact hC
