section RULES5
variable {K : KT} {nL : Nat} {Q : State → Prop} {cs mm : Nat × Nat} {pc pc' tgt : Nat} {lv : List (Nat × PV)} {stk rest : List PV} {hp : PH} {cc : ByteArray} {own : String} {h : Nat → Option PC} {nx : Nat} {l : List (Nat × PC)}
theorem wp_objInit (G : Gd K cc own nL) {idx r : Nat} (hl : Cond.methodLink own idx objectInit ∈ WT) (hi : Cond.instanceMethod objectInit ∈ WT) (hc : Cond.code objectInit ⟨#[0xb1]⟩ 1 none ∈ WT) (hd : Dn cc pc (.invokespecial idx) 3 pc') (hrw : rwd stk ≤ 8) (hR : 1 ≤ (kR K).frames ∧ 20 ≤ (kR K).locals) (k : Wp K nL Q cs pc' lv stk hp) : Wp K nL Q cs pc lv (zR r :: stk) hp := by
  intro H locs ls h1 h2 h3
  obtain ⟨hx, hb, hml, hown, hts, hE, hSv, hlk, hz⟩ := G
  obtain ⟨hd, rfl⟩ := hd
  refine W.objInit (g := F0 (kM K) pc ls ((zR r :: stk).map (rv (kG K).1))) (rest := stk.map (rv (kG K).1)) hx hb hown (hts _ hl) (hts _ hi) (hts _ hc) rfl (h3.1.trans hml.symm) rfl hd hR.1 ?_ (k H locs ls h1 h2 h3)
  have := lv_room (m := kM K) (pc := pc) (ls := ls) (rest := (zR r :: stk).map (rv (kG K).1)) (st := stk.map (rv (kG K).1)) (by rw [rwd_eq]; exact hrw)
  exact Nat.le_trans (Nat.add_le_add_right this 12) hR.2
theorem wp_new (G : Gd K cc own nL) {idx ci n : Nat} {fs : List PV} (hc : ClOk ci) (hq : ∃ q, vwCl[ci]? = some q ∧ q.2.2 = n ∧ Cond.classLink own idx q.1 ∈ WT ∧ Cond.instantiable q.1 n ∈ WT ∧ Cond.initialized q.1 ∈ WT) (hd : Dn cc pc (.new idx) 3 pc') (hfs : ∀ (sz : Nat) (j : Nat), j < n → defaultValue (clTy ci j) = vp_V (fs.map (rv sz)) j) (hR : cs.1 + 1 ≤ (kR K).cells ∧ cs.2 + n ≤ (kR K).slots) (k : Wp K nL Q (cs.1 + 1, cs.2 + n) pc' lv (zR hp.1 :: stk) (hnew hp (oO ci fs))) : Wp K nL Q cs pc lv stk hp := by
  intro H locs ls h1 h2 h3
  obtain ⟨hx, hb, hml, hown, hts, hE, hSv, hlk, hz⟩ := G
  obtain ⟨hd, rfl⟩ := hd
  obtain ⟨q, hq1, hin, hty, hnm⟩ := hc
  obtain ⟨q2, hq2, rfl, w1, w2, w3⟩ := hq
  cases hq1.symm.trans hq2
  have hKn := hE.1.1 ci _ hq1
  refine W.newcK hx hb hown (hts _ w1) (hts _ w2) (hts _ w3) rfl hd hR.1 hR.2 hKn.2.1 rfl fun H1 kC0 hkC e1 z1 o1 => ?_
  have hR1 : Rl (kG K) (hnew hp (oO ci fs)) H1 := h1.new z1 o1 (by
    have e1' : H1[(kG K).1 + hp.1]? = some (blank ((kG K).2.1.1 ci) kC0) := by rw [← h1.1]; exact e1
    exact ⟨_, hq1, (u_born (clTy ci) hts hin hKn hkC e1' hty).to (fun j hj => hfs _ j hj)⟩)
  have := k H1 locs ls hR1 ⟨Nat.le_trans h2.1 (by omega), fun x a1 a2 => (o1 x (Nat.lt_of_lt_of_le a1 h2.1)).trans (h2.2.1 x a1 a2), h2.2.2⟩ h3
  rw [h1.1]
  exact this
theorem wp_newa (G : Gd K cc own nL) {t n : Nat} {z : Int} {at_ : ArrayType} {c : PC} (ht : t < 3) (hat : newarray.typeOf at_ = aTy.getD t .int) (hw : Cond.arrayClass (newarray.typeOf at_) ∈ WT) (hd : Dn cc pc (.newarray at_) 2 pc') (hz : z = (n : Int)) (hn : n < 60000000) (hc : ∀ g : GT, ∃ a0, trC g c = .inl (g.2.2 t, a0) ∧ ∀ cA, vp_cell cA a0 = arrV cA n (fun _ => defaultValue (newarray.typeOf at_))) (hR : cs.1 + 1 ≤ (kR K).cells ∧ cs.2 + n ≤ (kR K).slots) (k : Wp K nL Q (cs.1 + 1, cs.2 + n) pc' lv (zR hp.1 :: stk) (hnew hp c)) : Wp K nL Q cs pc lv (zI z :: stk) hp := by
  intro H locs ls h1 h2 h3
  obtain ⟨hx, hb, hml, hown, hts, hE, hSv, hlk, hz0⟩ := G
  obtain ⟨hd, rfl⟩ := hd
  have eN : (Int32.ofInt z).toNatClampNeg = n := inbN (n := n + 1) hz (Nat.lt_succ_self n) (by omega)
  have hneg : ¬ Int32.ofInt z < 0 := fun q => (inb (n := n + 1) hz (Nat.lt_succ_self n) (by omega)) (Or.inl q)
  obtain ⟨a0, ha0, hcell⟩ := hc (kG K)
  have hbytes : n * componentBytes (newarray.typeOf at_) ≤ 536870912 := by
    have : componentBytes (newarray.typeOf at_) ≤ 8 := by cases at_ <;> decide
    exact Nat.le_trans (Nat.mul_le_mul_left n this) (by omega)
  refine va_newaK (g := F0 (kM K) pc ls ((zI z :: stk).map (rv (kG K).1))) (n := Int32.ofInt z) (rest := stk.map (rv (kG K).1)) hx hb (hts _ hw) rfl hd rfl hneg eN hbytes hR.1 hR.2 h1.1 fun H1 cA e1 z1 o1 hAr hNm => ?_
  have hRA := (ev_arr hE t (by omega)).2
  have hcA : cA = (kG K).2.2 t := by
    rw [hat] at hNm
    have : (kS K).vm.findClass ("[" ++ (aTy.getD t .int).toString) = some ((kG K).2.2 t) := by
      rcases (show t = 0 ∨ t = 1 ∨ t = 2 by omega) with rfl | rfl | rfl <;> exact hRA
    exact Option.some.inj (hNm.symm.trans this)
  have hsz : H.size = (kG K).1 + hp.1 := h1.1
  have hR1 : Rl (kG K) (hnew hp c) H1 := h1.new (by omega) (fun q hq => o1 q (by omega)) (by
    rw [ha0]
    show H1[_]? = some (vp_cell _ _)
    rw [hcell, ← hcA]
    exact e1)
  exact k H1 locs ls hR1 ⟨Nat.le_trans h2.1 (by omega), fun x a1 a2 => (o1 x (by have := h2.1; omega)).trans (h2.2.1 x a1 a2), h2.2.2⟩ h3
theorem newI (t n : Nat) (at_ : ArrayType) (hd : defaultValue (newarray.typeOf at_) = .int 0) : ∀ g : GT, ∃ a0, trC g (oA t n (fun _ => 0)) = .inl (g.2.2 t, a0) ∧ ∀ cA, vp_cell cA a0 = arrV cA n (fun _ => defaultValue (newarray.typeOf at_)) := fun g => ⟨_, rfl, fun cA => by rw [hd, vp_cell_i]; rfl⟩
theorem newL (t n : Nat) (at_ : ArrayType) (hd : defaultValue (newarray.typeOf at_) = .long 0) : ∀ g : GT, ∃ a0, trC g (oL t n (fun _ => 0)) = .inl (g.2.2 t, a0) ∧ ∀ cA, vp_cell cA a0 = arrV cA n (fun _ => defaultValue (newarray.typeOf at_)) := fun g => ⟨_, rfl, fun cA => by rw [hd, vp_cell_l]; rfl⟩
theorem wp_anew (G : Gd K cc own nL) {idx n : Nat} {z : Int} (hw : Cond.classLink own idx RX1 ∈ WT) (hd : Dn cc pc (.anewarray idx) 3 pc') (hz : z = (n : Int)) (hn : n < 60000000) (hR : cs.1 + 1 ≤ (kR K).cells ∧ cs.2 + n ≤ (kR K).slots) (k : Wp K nL Q (cs.1 + 1, cs.2 + n) pc' lv (zR hp.1 :: stk) (hnew hp (oP 5 n (fun _ => none)))) : Wp K nL Q cs pc lv (zI z :: stk) hp := by
  intro H locs ls h1 h2 h3
  obtain ⟨hx, hb, hml, hown, hts, hE, hSv, hlk, hz0⟩ := G
  obtain ⟨hd, rfl⟩ := hd
  have eN : (Int32.ofInt z).toNatClampNeg = n := inbN (n := n + 1) hz (Nat.lt_succ_self n) (by omega)
  have hneg : ¬ Int32.ofInt z < 0 := fun q => (inb (n := n + 1) hz (Nat.lt_succ_self n) (by omega)) (Or.inl q)
  refine W.anew (g := F0 (kM K) pc ls ((zI z :: stk).map (rv (kG K).1))) (n := Int32.ofInt z) (rest := stk.map (rv (kG K).1)) hx hb hown (hts _ hw) (va_AO.use hE.2.2.1) rfl hd rfl hneg (by rw [eN]; omega) hR.1 (by rw [eN]; exact hR.2) fun cA kA comp f1 f2 f3 f4 => ?_
  obtain ⟨kA', comp', g1, g2, g3, g4⟩ := (ev_arr hE 5 (by decide)).2
  have hcA : cA = (kG K).2.2 5 := Option.some.inj (f1.symm.trans g4)
  rw [eN]
  generalize hH1 : H.push ({ cls := cA, slots := Array.replicate n .null, vm := .none } : Cell) = H1
  have z1 : H1.size = H.size + 1 := by rw [← hH1, Array.size_push]
  have e1 : H1[H.size]? = some (arrV cA n (fun _ => .null)) := by rw [← hH1, Array.getElem?_push_size, ← arrV_new]
  have o1 : ∀ q : Nat, q < H.size → H1[q]? = H[q]? := fun q hq => by rw [← hH1, Array.getElem?_push, if_neg (Nat.ne_of_lt hq)]
  have hsz : H.size = (kG K).1 + hp.1 := h1.1
  have hR1 : Rl (kG K) (hnew hp (oP 5 n (fun _ => none))) H1 := h1.new z1 o1 (by
    show H1[_]? = some (vp_cell _ _)
    dsimp only
    rw [vp_cell_q, ← hsz, e1, hcA]
    rfl)
  have := k H1 locs ls hR1 ⟨Nat.le_trans h2.1 (by omega), fun x a1 a2 => (o1 x (Nat.lt_of_lt_of_le a1 h2.1)).trans (h2.2.1 x a1 a2), h2.2.2⟩ h3
  rw [hsz]
  exact this
theorem wp_aast (G : Gd K cc own nL) {r n j v : Nat} {f : Nat → Option Nat} {z : Int} {vs : List PV} (hd : Dn cc pc .aastore 1 pc') (ho : hget hp r = some (oP 5 n f)) (hv : hget hp v = some (oO 1 vs)) (hz : z = (j : Int)) (hj : j < n) (hn : n < 2147483648) (k : Wp K nL Q cs pc' lv stk (hset hp r (oP 5 n (fup f j (some v))))) : Wp K nL Q cs pc lv (zR v :: zI z :: zR r :: stk) hp := by
  intro H locs ls h1 h2 h3
  obtain ⟨hx, hb, hml, hown, hts, hE, hSv, hlk, hz0⟩ := G
  obtain ⟨hd, rfl⟩ := hd
  have e := inbN hz hj hn
  have hib := inb hz hj hn
  obtain ⟨r', hr', cellV, g1, g2, g3, -⟩ := (h1.2 v _ hv).2
  have hcls := (hE.1.1 1 (RX1, TX1, 6) rfl).2
  obtain ⟨kA, comp, k1, k2, k3, -⟩ := (ev_arr hE 5 (by decide)).2
  have hcomp : comp = (kG K).2.1.1 1 := Option.some.inj (k3.symm.trans hcls.1)
  subst hcomp
  obtain ⟨kC0, hkC, -⟩ := id hcls.2
  refine W.aast (a := (kG K).1 + r) (v := (kG K).1 + v) (j := Int32.ofInt z) hx hb (h1.2 r _ ho).2 (fun q h => by cases h) (fun h => by cases h) k1 k2 rfl hkC ⟨fun q => hib (Or.inl q), by show _ < (arrV _ _ _).slots.size; rw [arrV_size, e]; exact hj⟩ g1 (fun q h => by rw [g3] at h; cases h) (by rw [g2]; exact hkC) (by rw [g2]; exact va_assign hcls) rfl rfl hd fun H' e1 e2 e3 => ?_
  refine k H' _ ls (h1.put ho e2 e3 ?_) (h2.put e2 e3 (Nat.le_add_right _ _)) h3
  show H'[_]? = some (vp_cell _ _)
  rw [e1, e]
  dsimp only
  rw [vp_cell_q, vp_cell_q, arrV_store]
  congr 2
  funext q
  by_cases hq : q = j
  · subst hq
    simp [updV, fup, va_rf]
  · simp [updV, fup, hq]
/-- a cell of a static table, read at once: getstatic, iload, xaload -/
theorem wp_stab (G : Gd K cc own nL) (i : Nat) (hi : i < 3) {idx p2 p3 j jl : Nat} {z : Int} {k : Fin 4} (hli : Cond.fieldLink own idx (stTab i).1 (stTab i).2.1 (stTab i).2.2.1 ∈ WT) (d1 : Dn cc pc (.getstatic idx) 3 p2) (d2 : Dn cc p2 (.iload_n k) 1 p3) (d3 : Dn cc p3 (if i = 2 then .caload else .iaload) 1 pc') (hl : lv[jl]? = some ((k : Nat), zI z)) (hz : z = (j : Int)) (hj : j < (stTab i).2.2.2.2.1) (kk : Wp K nL Q cs pc' lv (zI ((stTab i).2.2.2.2.2 j) :: stk) hp) : Wp K nL Q cs pc lv stk hp := by
  intro H locs ls h1 h2 h3
  obtain ⟨hx, hb, hml, hown, hts, hE, hSv, hlk, hz0⟩ := G
  obtain ⟨d1, rfl⟩ := d1
  obtain ⟨d2, rfl⟩ := d2
  obtain ⟨d3, rfl⟩ := d3
  obtain ⟨t, hZ, hT⟩ := hSv i hi
  have hn : (stTab i).2.2.2.2.1 < 2147483648 := by rcases (show i = 0 ∨ i = 1 ∨ i = 2 by omega) with rfl | rfl | rfl <;> decide
  have e := inbN hz hj hn
  refine va_gets hx hb hZ h2 hown (hts _ hli) (fun _ h => h) d1 ?_
  refine lv_iload_n hx hb d2 rfl (lvm_at h3 hl) ?_
  rcases (show i = 0 ∨ i = 1 ∨ i = 2 by omega) with rfl | rfl | rfl
  · exact va_ti hx hb hT h2 (inb hz hj hn) (by rw [e]; rfl) d3 (kk H locs ls h1 h2 h3)
  · exact va_ti hx hb hT h2 (inb hz hj hn) (by rw [e]; rfl) d3 (kk H locs ls h1 h2 h3)
  · exact va_tc hx hb hT h2 (inb hz hj hn) (by rw [e]; rfl) d3 (kk H locs ls h1 h2 h3)
end RULES5
