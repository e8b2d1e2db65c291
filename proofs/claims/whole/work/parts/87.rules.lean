/-! the law's way to its loop: locals as they are laid -/
def WpR (K : KT) (lv : List (Nat × Value)) (Q : State → Prop) (cs : Nat × Nat) (pc : Nat) (stk : List PV) (hp : PH) : Prop :=
  ∀ (H : Heap) (locs : List Loc) (ls : Array Slot), Rl (kG K) hp H → va_S (Ag (kG K)) (kS K).heap H locs → lv_has ls 4 lv → WK K H locs cs Q (F0 (kM K) pc ls (stk.map (rv (kG K).1)))
section LAWS
variable {K : KT} {lv lv' : List (Nat × Value)} {Q : State → Prop} {cs mm : Nat × Nat} {pc pc' : Nat} {stk rest : List PV} {hp : PH}
theorem wr_new (G : Gd K cL_law RL 4) {idx ci n : Nat} {fs : List PV} (hc : ClOk ci) (hq : ∃ q, vwCl[ci]? = some q ∧ q.2.2 = n ∧ Cond.classLink RL idx q.1 ∈ WT ∧ Cond.instantiable q.1 n ∈ WT ∧ Cond.initialized q.1 ∈ WT) (hd : Dn cL_law pc (.new idx) 3 pc') (hfs : ∀ (sz : Nat) (j : Nat), j < n → defaultValue (clTy ci j) = vp_V (fs.map (rv sz)) j) (hR : cs.1 + 1 ≤ (kR K).cells ∧ cs.2 + n ≤ (kR K).slots) (k : WpR K lv Q (cs.1 + 1, cs.2 + n) pc' (zR hp.1 :: stk) (hnew hp (oO ci fs))) : WpR K lv Q cs pc stk hp := by
  intro H locs ls h1 h2 h3
  obtain ⟨hx, hb, hml, hown, hts, hE, hSv, hlk, hz⟩ := G
  obtain ⟨hd, rfl⟩ := hd
  obtain ⟨q, hq1, hin, hty, hnm⟩ := hc
  obtain ⟨q2, hq2, rfl, w1, w2, w3⟩ := hq
  cases hq1.symm.trans hq2
  have hKn := hE.1.1 ci _ hq1
  refine W.newcK hx hb hown (hts _ w1) (hts _ w2) (hts _ w3) rfl hd hR.1 hR.2 hKn.2.1 rfl fun H1 kC0 hkC e1 z1 o1 => ?_
  have hR1 : Rl (kG K) (hnew hp (oO ci fs)) H1 := h1.new z1 o1 (by
    have e1' : H1[(kG K).1 + hp.1]? = some (blank ((kG K).2.1.1 ci) kC0) := by rw [← h1.1]; exact e1
    exact ⟨_, hq1, (u_born (clTy ci) hts hin hKn hkC e1' hty).to (fun j hj => hfs _ j hj)⟩)
  have := k H1 locs ls hR1 ⟨Nat.le_trans h2.1 (by omega), fun x a1 a2 => (o1 x (Nat.lt_of_lt_of_le a1 h2.1)).trans (h2.2.1 x a1 a2), h2.2.2⟩ h3
  rw [h1.1]
  exact this
theorem wr_dup (G : Gd K cL_law RL 4) {r : Nat} (hd : Dn cL_law pc .dup 1 pc') (k : WpR K lv Q cs pc' (zR r :: zR r :: stk) hp) : WpR K lv Q cs pc (zR r :: stk) hp := by
  intro H locs ls h1 h2 h3
  obtain ⟨hx, hb, -⟩ := G
  obtain ⟨hd, rfl⟩ := hd
  exact lv_dup hx hb hd rfl (k H locs ls h1 h2 h3)
theorem wr_astore (G : Gd K cL_law RL 4) {i : Fin 4} {r : Nat} (hd : Dn cL_law pc (.astore_n i) 1 pc') (hl : ((i : Nat), Value.ref ((kG K).1 + r)) :: lv.filter (fun q => !(q.1 == (i : Nat)) && !(q.1 + 1 == (i : Nat) && q.2.category == 2)) = lv') (k : WpR K lv' Q cs pc' stk hp) : WpR K lv Q cs pc (zR r :: stk) hp := by
  intro H locs ls h1 h2 h3
  obtain ⟨hx, hb, -⟩ := G
  obtain ⟨hd, rfl⟩ := hd
  exact lv_astore_n hx hb hd rfl h3 i.isLt hl (fun ls' h' => k H locs ls' h1 h2 h')
theorem wr_i0 (G : Gd K cL_law RL 4) {p2 : Nat} (d1 : Dn cL_law pc (.iconst 0) 1 p2) (d2 : Dn cL_law p2 (.istore_n 3) 1 pc') (hl : (3, Value.int (Int32.ofInt 0)) :: lv.filter (fun q => !(q.1 == 3) && !(q.1 + 1 == 3 && q.2.category == 2)) = lv') (k : WpR K lv' Q cs pc' stk hp) : WpR K lv Q cs pc stk hp := by
  intro H locs ls h1 h2 h3
  obtain ⟨hx, hb, -⟩ := G
  obtain ⟨d1, rfl⟩ := d1
  obtain ⟨d2, rfl⟩ := d2
  refine lv_iconst hx hb d1 rfl ?_
  exact lv_istore_n hx hb d2 rfl h3 (by decide) hl (fun ls' h' => k H locs ls' h1 h2 h')
theorem wr_back {Qp : Option PV → Nat → List (Nat × PC) → Prop} {a : Array Value} {H : Heap} {locs : List Loc} {ls : Array Slot} (h1 : Rl (kG K) hp H) (h2 : va_S (Ag (kG K)) (kS K).heap H locs) (h3 : lv_has ls 4 lv) {st0 : List Value}
    (hr : va_Run K.1 K.2.1 K.2.2.1 K.2.2.2.1 K.2.2.2.2.1 K.2.2.2.2.2.1 K.2.2.2.2.2.2.1 K.2.2.2.2.2.2.2.1 K.2.2.2.2.2.2.2.2.1 K.2.2.2.2.2.2.2.2.2.1 H locs cs.1 cs.2 mm.1 mm.2 (F0 (kM K) pc ls st0) (rest.map (rv (kG K).1)) (Qx (kG K) (hget hp) Qp a) (Ag (kG K)))
    (k : ∀ r nx' l', Qp r nx' l' → WpR K lv Q (cs.1 + mm.1, cs.2 + mm.2) (pc + 3) (r.toList ++ rest) (nx', hp.2.1, asets hp.2.2 l')) : WK K H locs cs Q (F0 (kM K) pc ls st0) := by
  intro T hT X
  obtain ⟨v, st₀, t, T', L, e0, X', hL, e1, e2, ⟨⟨r, nx', l', ho, hq, hR⟩, hF⟩, st⟩ := hr T hT X
  have hv : v = r.map (rv (kG K).1) := by cases ho; rfl
  subst hv
  have hR2 : Rl (kG K) (nx', hp.2.1, asets hp.2.2 l') T'.heap := by
    rw [e1]
    exact hR.ext rfl (fun j => hlk_asets _ _ _ _)
  have hS2 : va_S (Ag (kG K)) (kS K).heap T'.heap (locs ++ L) := by
    have hF1 := hF.1
    have hF2 := hF.2
    rw [e0] at hF1 hF2
    rw [e1]
    refine ⟨Nat.le_trans h2.1 hF1, fun q q1 q2 => ?_, fun q hq2 => ?_⟩
    · rw [hF2 q (Nat.lt_of_lt_of_le q1 h2.1) q2]
      exact h2.2.1 q q1 q2
    · rcases List.mem_append.mp hq2 with w | w
      · exact h2.2.2 q w
      · exact hL q w
  obtain ⟨t2, a1, b1⟩ := k r nx' l' hq T'.heap (locs ++ L) ls hR2 hS2 h3 T' rfl X'
  refine ⟨t2, st t2 ?_, b1⟩
  have es : (r.toList ++ rest).map (rv (kG K).1) = (r.map (rv (kG K).1)).toList ++ rest.map (rv (kG K).1) := by cases r <;> simp
  rw [es] at a1
  exact a1
theorem wr_callI (G : Gd K cL_law RL 4) {Qp : Option PV → Nat → List (Nat × PC) → Prop} {d n idx maxL b : Nat} {y : MethodName} {cb : ByteArray} {as : List PV} (hm : My y cb maxL none n) (hl : Mlk RL idx y) (hin : Cond.instanceMethod y ∈ WT) (hini : y.name = "<init>") (hd : Dn cL_law pc (.invokespecial idx) 3 pc') (hs : stk = as.reverse ++ zR b :: rest) (hn : as.length = n) (hrw : rwd rest ≤ 8) (hR : d + 1 ≤ (kR K).frames ∧ 8 + (maxL + 11) + 40 * d ≤ (kR K).locals ∧ cs.1 + mm.1 ≤ (kR K).cells ∧ cs.2 + mm.2 ≤ (kR K).slots)
    (C : Cx d mm y cb maxL none (zR b :: as) hp.1 (hget hp) Qp) (k : ∀ r nx' l', Qp r nx' l' → WpR K lv Q (cs.1 + mm.1, cs.2 + mm.2) pc' (r.toList ++ rest) (nx', hp.2.1, asets hp.2.2 l')) : WpR K lv Q cs pc stk hp := by
  intro H locs ls h1 h2 h3
  have hpx := px_at G h1 h2
  obtain ⟨hx, hb, hml, hown, hts, hE, hSv, hlk, hz⟩ := G
  obtain ⟨hd, rfl⟩ := hd
  have hG : GoodIn WT (Cond.code y cb maxL none :: WT) := by
    intro w hw
    rcases List.mem_cons.mp hw with rfl | e
    · exact ⟨hm.1, wt_good hm.1⟩
    · exact ⟨e, wt_good e⟩
  have hst0 : stk.map (rv (kG K).1) = (as.map (rv (kG K).1)).reverse ++ .ref ((kG K).1 + b) :: rest.map (rv (kG K).1) := by rw [hs, List.map_append, List.map_reverse]; rfl
  rw [hst0]
  refine wr_back h1 h2 h3 (a := (.ref ((kG K).1 + b) :: as.map (rv (kG K).1)).toArray) ?_ k
  rcases hl with hl | hl
  · exact va_runI (Ts := WT) ⟨hx, hb, hml, hown, hts⟩ (C _ _) ⟨callB_of n hts hG rfl rfl rfl (hts _ hm.2.1) (hts _ hl) hm.2.2 ⟨hR.1, hR.2.1⟩, hini, hts _ hin⟩ ⟨px_blind, fun U hU hW => ⟨rfl, hpx U hU hW⟩⟩ rfl (by rw [List.length_map]; exact hn) h3.1 rfl (lv_room (by rw [rwd_eq]; exact hrw)) hd ⟨hR.2.2.1, hR.2.2.2⟩
  · exact va_runIN (Ts := WT) (host := RX9) ⟨hx, hb, hml, hown, hts⟩ (C _ _) ⟨va_cnB n hts hG rfl rfl rfl (hE.2.1 _ hl rfl) (hts _ hm.2.1) hm.2.2 ⟨hR.1, hR.2.1⟩, hini, hts _ hin⟩ ⟨px_blind, fun U hU hW => ⟨rfl, hpx U hU hW⟩⟩ rfl (by rw [List.length_map]; exact hn) h3.1 rfl (lv_room (by rw [rwd_eq]; exact hrw)) hd ⟨hR.2.2.1, hR.2.2.2⟩
end LAWS
