/-! contracts, returns, calls -/
def Qx (g : GT) (h : Nat → Option PC) (Qp : Option PV → Nat → List (Nat × PC) → Prop) : Array Value → State → Outcome → State → Prop := fun _ st oc t => (∃ (r : Option PV) (nx : Nat) (l : List (Nat × PC)), oc = .returned (r.map (rv g.1)) ∧ Qp r nx l ∧ Rl g (nx, h, l) t.heap) ∧ va_F (Ag g) st t
def Mx (K : KT) (h : Nat → Option PC) (Qp : Option PV → Nat → List (Nat × PC) → Prop) (mm : Nat × Nat) : State → Prop := MQ K.2.2.2.2.2.2.2.1 (Qx (kG K) h Qp) (kA K) (kS K) mm.1 mm.2 (Ag (kG K))
def rmx (d mc ms : Nat) : Room := { frames := d, cells := mc, slots := ms, locals := 40 * d }
def Px (g : GT) (nx : Nat) (h : Nat → Option PC) (U : State) : Prop := Ev g U ∧ Sv g U U.heap ∧ Rl g (nx, h, []) U.heap ∧ g.1 ≤ U.heap.size
def Cx (d : Nat) (mm : Nat × Nat) (y : MethodName) (cc : ByteArray) (maxL : Nat) (ret : Option FieldType) (as : List PV) (nx : Nat) (h : Nat → Option PC) (Qp : Option PV → Nat → List (Nat × PC) → Prop) : Prop :=
  ∀ (l : Launch) (g : GT), Met l y (Cond.code y cc maxL ret :: WT) (rmx d mm.1 mm.2) (va_Pc (as.map (rv g.1)) (Px g nx h)) (Qx g h Qp) mm.1 mm.2 (Ag g)
def pargs : Nat → List PV → List (Nat × PV)
  | _, [] => []
  | i, v :: vs => (i, v) :: pargs (if isJ v then i + 2 else i + 1) vs
theorem pargs_map (sz : Nat) : ∀ (vs : List PV) (i : Nat), lv_args i (vs.map (rv sz)) = lvm sz (pargs i vs)
  | [], _ => rfl
  | v :: vs, i => by
    show (i, rv sz v) :: lv_args (if (rv sz v).category = 2 then i + 2 else i + 1) (vs.map (rv sz)) = (i, rv sz v) :: lvm sz (pargs (if isJ v then i + 2 else i + 1) vs)
    have e : (if (rv sz v).category = 2 then i + 2 else i + 1) = (if isJ v then i + 2 else i + 1) := by
      rcases v with z | z | _ | k <;> rfl
    rw [e, pargs_map sz vs]
def pwd : List PV → Nat
  | [] => 0
  | v :: vs => (if isJ v then 2 else 1) + pwd vs
theorem pwd_len (sz : Nat) : ∀ vs : List PV, (lg_sl (vs.map (rv sz))).length = pwd vs
  | [] => rfl
  | v :: vs => by
    have h := pwd_len sz vs
    unfold lg_sl at h
    unfold lg_sl pwd
    rw [List.map_cons, List.flatMap_cons, List.length_append, h]
    rcases v with z | z | _ | k <;> rfl
/-- a method's facts: its code among the words -/
def My (y : MethodName) (cc : ByteArray) (maxL : Nat) (ret : Option FieldType) (n : Nat) : Prop := Cond.code y cc maxL ret ∈ WT ∧ Cond.initialized y.cls ∈ WT ∧ (y.cls ≠ "java/lang/invoke/MethodHandle" ∧ y.cls ≠ "java/lang/invoke/VarHandle" ∧ (parseMethodDescriptor y.desc).map (fun d => d.parameters.length) = some n)
theorem cx_of {d : Nat} {mm : Nat × Nat} {y : MethodName} {cc : ByteArray} {maxL : Nat} {ret : Option FieldType} {as : List PV} {nx : Nat} {h : Nat → Option PC} {Qp : Option PV → Nat → List (Nat × PC) → Prop} (hy : plainName y.cls = true) (hw : pwd as ≤ maxL)
    (body : ∀ K : KT, Gd K cc y.cls maxL → (kMeth K).sig.returnType = ret → (kMeth K).name = y.name → kR K = rmx d mm.1 mm.2 → Wp K maxL (Mx K h Qp mm) (0, 0) 0 (pargs 0 as) [] (nx, h, [])) : Cx d mm y cc maxL ret as nx h Qp := by
  intro l g
  refine Met.ofW (cc := cc) (maxL := maxL) (ret := ret) hy rfl ?_
  intro p e s m args below meth c s₁ B hml hv
  obtain ⟨rfl, hE, hSv, hR, hsz⟩ := hv
  have hts := atoms_spec (ws := Cond.code y cc maxL ret :: WT) B.pre
  have hb := body (p, l, e, rmx d mm.1 mm.2, s, m, (as.map (rv g.1)).toArray, below, meth, c, g) ⟨B.exec, B.bytes, hml, findClass_of_methodNamed B.named, fun w hw => hts w (List.mem_cons_of_mem _ hw), hE, hSv, B.notSynchronized, hsz⟩ B.returns (name_of_methodNamed B.named B.method).1 rfl
  have hl := lv_entry (as.map (rv g.1)) (n := maxL) (by rw [pwd_len]; exact hw)
  rw [lg_entry_eq]
  rw [pargs_map] at hl
  exact hb s.heap [] _ hR va_S.rf hl
section RULES4
variable {K : KT} {nL : Nat} {Q : State → Prop} {cs mm : Nat × Nat} {pc pc' tgt : Nat} {lv : List (Nat × PV)} {stk rest : List PV} {hp : PH} {cc : ByteArray} {own : String} {h : Nat → Option PC} {Qp : Option PV → Nat → List (Nat × PC) → Prop} {nx : Nat} {l : List (Nat × PC)}
theorem qx_of {K : KT} {H : Heap} {locs : List Loc} (h1 : Rl (kG K) (nx, h, l) H) (h2 : va_S (Ag (kG K)) (kS K).heap H locs) {r : Option PV} (hq : Qp r nx l) {v : Option Value} (hv : v = r.map (rv (kG K).1)) : ∀ t : State, t.heap = H → (kS K).WarmedH t.vm → Qx (kG K) h Qp (kA K) (kS K) (.returned v) t := fun t ht _ => ⟨⟨r, nx, l, by rw [hv], hq, by rw [ht]; exact h1⟩, h2.F ht⟩
theorem wp_ireturn (G : Gd K cc own nL) {z : Int} (hr : (kMeth K).sig.returnType = some .int) (hd : Dn cc pc .ireturn 1 pc') (hq : Qp (some (zI z)) nx l) : Wp K nL (Mx K h Qp mm) mm pc lv [zI z] (nx, h, l) := by
  intro H locs ls h1 h2 h3
  obtain ⟨hx, hb, -, -, -, -, -, hlk, -⟩ := G
  obtain ⟨hd, -⟩ := hd
  exact W.iret hx hb hr (qx_of h1 h2 hq rfl) h2.2.2 hd hlk
theorem wp_zreturn (G : Gd K cc own nL) {z : Int} (hz : z = 0 ∨ z = 1) (hr : (kMeth K).sig.returnType = some .boolean) (hd : Dn cc pc .ireturn 1 pc') (hq : Qp (some (zI z)) nx l) : Wp K nL (Mx K h Qp mm) mm pc lv [zI z] (nx, h, l) := by
  intro H locs ls h1 h2 h3
  obtain ⟨hx, hb, -, -, -, -, -, hlk, -⟩ := G
  obtain ⟨hd, -⟩ := hd
  exact W.zret hx hb hr (by rcases hz with rfl | rfl <;> decide) (qx_of h1 h2 hq rfl) h2.2.2 hd hlk
theorem wp_lreturn (G : Gd K cc own nL) {z : Int} (hr : (kMeth K).sig.returnType = some .long) (hd : Dn cc pc .lreturn 1 pc') (hq : Qp (some (zJ z)) nx l) : Wp K nL (Mx K h Qp mm) mm pc lv [zJ z] (nx, h, l) := by
  intro H locs ls h1 h2 h3
  obtain ⟨hx, hb, -, -, -, -, -, hlk, -⟩ := G
  obtain ⟨hd, -⟩ := hd
  exact W.lret hx hb hr (qx_of h1 h2 hq rfl) h2.2.2 hd hlk
theorem wp_vreturn (G : Gd K cc own nL) (hr : (kMeth K).sig.returnType = none) (hd : Dn cc pc .return_ 1 pc') (hq : Qp none nx l) : Wp K nL (Mx K h Qp mm) mm pc lv [] (nx, h, l) := by
  intro H locs ls h1 h2 h3
  obtain ⟨hx, hb, -, -, -, -, -, hlk, -⟩ := G
  obtain ⟨hd, -⟩ := hd
  exact W.vret hx hb hr (qx_of h1 h2 hq rfl) h2.2.2 hd hlk
theorem wp_areturn (G : Gd K cc own nL) {r : Option Nat} {rt : FieldType} (hr : (kMeth K).sig.returnType = some rt) (hrt : (∃ n, rt = .object n) ∨ ∃ t, rt = .array t) (hd : Dn cc pc .areturn 1 pc') (hq : Qp (some (zQ r)) nx l) : Wp K nL (Mx K h Qp mm) mm pc lv [zQ r] (nx, h, l) := by
  intro H locs ls h1 h2 h3
  obtain ⟨hx, hb, -, -, -, -, -, hlk, -⟩ := G
  obtain ⟨hd, -⟩ := hd
  exact W.aret (v := rv (kG K).1 (zQ r)) hx hb hr hrt (by cases r with | none => exact Or.inl rfl | some a => exact Or.inr ⟨_, rfl⟩) (qx_of h1 h2 hq rfl) h2.2.2 hd hlk
theorem wp_widen {cs' : Nat × Nat} (e1 : cs.1 ≤ cs'.1) (e2 : cs.2 ≤ cs'.2) (k : Wp K nL Q cs' pc lv stk hp) : Wp K nL Q cs pc lv stk hp := fun H locs ls h1 h2 h3 => W.widen e1 e2 (k H locs ls h1 h2 h3)
theorem px_blind {g : GT} {av : List Value} : FrameBlind (va_Pc av (Px g nx h)) := fun a U f mk hq => ⟨hq.1, Ev.same (u := U) (U := U.calling f mk a) rfl hq.2.1, Sv.moved (u := U) (U := U.calling f mk a) (Vm.Alike.refl U.vm) hq.2.2.1, hq.2.2.2.1, hq.2.2.2.2⟩
theorem px_at (G : Gd K cc own nL) {H : Heap} {locs : List Loc} (h1 : Rl (kG K) hp H) (h2 : va_S (Ag (kG K)) (kS K).heap H locs) : ∀ U : State, U.heap = H → (kS K).WarmedH U.vm → Px (kG K) hp.1 (hget hp) U := by
  obtain ⟨-, -, -, -, -, hE, hS, -, hz⟩ := G
  intro U hU hW
  refine ⟨hE.moved hW, ?_, by rw [hU]; exact h1.ext rfl (fun _ => rfl), by rw [hU]; exact Nat.le_trans hz h2.1⟩
  rw [hU]
  exact (hS.kept (fun a ha hn => h2.2.1 a ha hn)).moved hW.alike
/-- behind a call -/
theorem wp_back {y : MethodName} {a : Array Value} {H : Heap} {locs : List Loc} {ls : Array Slot} (h1 : Rl (kG K) hp H) (h2 : va_S (Ag (kG K)) (kS K).heap H locs) (h3 : lv_has ls nL (lvm (kG K).1 lv)) {st0 : List Value}
    (hr : va_Run K.1 K.2.1 K.2.2.1 K.2.2.2.1 K.2.2.2.2.1 K.2.2.2.2.2.1 K.2.2.2.2.2.2.1 K.2.2.2.2.2.2.2.1 K.2.2.2.2.2.2.2.2.1 K.2.2.2.2.2.2.2.2.2.1 H locs cs.1 cs.2 mm.1 mm.2 (F0 (kM K) pc ls st0) (rest.map (rv (kG K).1)) (Qx (kG K) (hget hp) Qp a) (Ag (kG K)))
    (k : ∀ r nx' l', Qp r nx' l' → Wp K nL Q (cs.1 + mm.1, cs.2 + mm.2) (pc + 3) lv (r.toList ++ rest) (nx', hp.2.1, asets hp.2.2 l')) : WK K H locs cs Q (F0 (kM K) pc ls st0) := by
  intro T hT X
  obtain ⟨v, st₀, t, T', L, e0, X', hL, e1, e2, ⟨⟨r, nx', l', ho, hq, hR⟩, hF⟩, st⟩ := hr T hT X
  have hv : v = r.map (rv (kG K).1) := by cases ho; rfl
  subst hv
  have hR2 : Rl (kG K) (nx', hp.2.1, asets hp.2.2 l') T'.heap := by
    rw [e1]
    exact hR.ext rfl (fun j => hlk_asets _ _ _ _)
  have hS2 : va_S (Ag (kG K)) (kS K).heap T'.heap (locs ++ L) := by
    have hF1 := hF.1
    have hF2 := hF.2
    rw [e0] at hF1 hF2
    rw [e1]
    refine ⟨Nat.le_trans h2.1 hF1, fun q q1 q2 => ?_, fun q hq2 => ?_⟩
    · rw [hF2 q (Nat.lt_of_lt_of_le q1 h2.1) q2]
      exact h2.2.1 q q1 q2
    · rcases List.mem_append.mp hq2 with w | w
      · exact h2.2.2 q w
      · exact hL q w
  obtain ⟨t2, a1, b1⟩ := k r nx' l' hq T'.heap (locs ++ L) ls hR2 hS2 h3 T' rfl X'
  refine ⟨t2, st t2 ?_, b1⟩
  have es : (r.toList ++ rest).map (rv (kG K).1) = (r.map (rv (kG K).1)).toList ++ rest.map (rv (kG K).1) := by cases r <;> simp
  rw [es] at a1
  exact a1
def Mlk (own : String) (idx : Nat) (y : MethodName) : Prop := Cond.methodLink own idx y ∈ WT ∨ Cond.methodLinkNest own idx y RX9 ∈ lw_tbl
def rwd : List PV → Nat
  | [] => 0
  | v :: vs => (if isJ v then 2 else 1) + rwd vs
theorem rwd_eq (sz : Nat) : ∀ vs : List PV, ((vs.map (rv sz)).map fun v => v.category).sum = rwd vs
  | [] => rfl
  | v :: vs => by
    have h := rwd_eq sz vs
    rw [List.map_cons, List.map_cons, List.sum_cons, h]
    rcases v with z | z | _ | k <;> rfl
theorem wp_callS (G : Gd K cc own nL) {d n idx maxL : Nat} {y : MethodName} {cb : ByteArray} {ret : Option FieldType} {as : List PV} (hm : My y cb maxL ret n) (hl : Mlk own idx y) (hst : Cond.static y ∈ WT) (hd : Dn cc pc (.invokestatic idx) 3 pc') (hs : stk = as.reverse ++ rest) (hn : as.length = n) (hrw : rwd rest ≤ 8) (hR : d + 1 ≤ (kR K).frames ∧ 8 + (maxL + 11) + 40 * d ≤ (kR K).locals ∧ cs.1 + mm.1 ≤ (kR K).cells ∧ cs.2 + mm.2 ≤ (kR K).slots)
    (C : Cx d mm y cb maxL ret as hp.1 (hget hp) Qp) (k : ∀ r nx' l', Qp r nx' l' → Wp K nL Q (cs.1 + mm.1, cs.2 + mm.2) pc' lv (r.toList ++ rest) (nx', hp.2.1, asets hp.2.2 l')) : Wp K nL Q cs pc lv stk hp := by
  intro H locs ls h1 h2 h3
  have hpx := px_at G h1 h2
  obtain ⟨hx, hb, hml, hown, hts, hE, hSv, hlk, hz⟩ := G
  obtain ⟨hd, rfl⟩ := hd
  have hG : GoodIn WT (Cond.code y cb maxL ret :: WT) := by
    intro w hw
    rcases List.mem_cons.mp hw with rfl | e
    · exact ⟨hm.1, wt_good hm.1⟩
    · exact ⟨e, wt_good e⟩
  have hst0 : stk.map (rv (kG K).1) = (as.map (rv (kG K).1)).reverse ++ rest.map (rv (kG K).1) := by rw [hs, List.map_append, List.map_reverse]
  rw [hst0]
  refine wp_back (y := y) h1 h2 h3 (a := (as.map (rv (kG K).1)).toArray) ?_ k
  rcases hl with hl | hl
  · exact va_runS (Ts := WT) ⟨hx, hb, hml, hown, hts⟩ (C _ _) ⟨callB_of n hts hG rfl rfl rfl (hts _ hm.2.1) (hts _ hl) hm.2.2 ⟨hR.1, hR.2.1⟩, hts _ hst⟩ ⟨px_blind, fun U hU hW => ⟨rfl, hpx U hU hW⟩⟩ rfl (by rw [List.length_map]; exact hn) h3.1 rfl (lv_room (by rw [rwd_eq]; exact hrw)) hd ⟨hR.2.2.1, hR.2.2.2⟩
  · exact va_runSN (Ts := WT) (host := RX9) ⟨hx, hb, hml, hown, hts⟩ (C _ _) ⟨va_cnB n hts hG rfl rfl rfl (hE.2.1 _ hl rfl) (hts _ hm.2.1) hm.2.2 ⟨hR.1, hR.2.1⟩, hts _ hst, trivial⟩ ⟨px_blind, fun U hU hW => ⟨rfl, hpx U hU hW⟩⟩ rfl (by rw [List.length_map]; exact hn) h3.1 rfl (lv_room (by rw [rwd_eq]; exact hrw)) hd ⟨hR.2.2.1, hR.2.2.2⟩
theorem wp_callV (G : Gd K cc own nL) {d n idx maxL b ci : Nat} {y : MethodName} {cb : ByteArray} {ret : Option FieldType} {as fs : List PV} (hm : My y cb maxL ret n) (hl : Mlk own idx y) (hin : Cond.instanceMethod y ∈ WT) (hsel : Cond.selects y.cls y y ∈ WT) (hci : ∃ q, vwCl[ci]? = some q ∧ q.1 = y.cls) (hd : Dn cc pc (.invokevirtual idx) 3 pc') (ho : hget hp b = some (oO ci fs)) (hs : stk = as.reverse ++ zR b :: rest) (hn : as.length = n) (hrw : rwd rest ≤ 8) (hR : d + 1 ≤ (kR K).frames ∧ 8 + (maxL + 11) + 40 * d ≤ (kR K).locals ∧ cs.1 + mm.1 ≤ (kR K).cells ∧ cs.2 + mm.2 ≤ (kR K).slots)
    (C : Cx d mm y cb maxL ret (zR b :: as) hp.1 (hget hp) Qp) (k : ∀ r nx' l', Qp r nx' l' → Wp K nL Q (cs.1 + mm.1, cs.2 + mm.2) pc' lv (r.toList ++ rest) (nx', hp.2.1, asets hp.2.2 l')) : Wp K nL Q cs pc lv stk hp := by
  intro H locs ls h1 h2 h3
  have hpx := px_at G h1 h2
  obtain ⟨hx, hb, hml, hown, hts, hE, hSv, hlk, hz⟩ := G
  obtain ⟨hd, rfl⟩ := hd
  have hG : GoodIn WT (Cond.code y cb maxL ret :: WT) := by
    intro w hw
    rcases List.mem_cons.mp hw with rfl | e
    · exact ⟨hm.1, wt_good hm.1⟩
    · exact ⟨e, wt_good e⟩
  obtain ⟨q, hq, hqc⟩ := hci
  have hP : va_P (kG K).2.1 vwCl [((kG K).1 + b, .inr (ci, fs.map (rv (kG K).1)))] H := fun j x hj => by
    have h0 : j < 1 := (List.getElem?_eq_some_iff.mp hj).1
    rw [show j = 0 by omega] at hj
    cases hj
    exact (h1.2 b _ ho).2
  have hrc := va_recv hE.1 hP hq (q0 := 0) rfl
  rw [hqc] at hrc
  have hst0 : stk.map (rv (kG K).1) = (as.map (rv (kG K).1)).reverse ++ .ref ((kG K).1 + b) :: rest.map (rv (kG K).1) := by rw [hs, List.map_append, List.map_reverse]; rfl
  rw [hst0]
  refine wp_back (y := y) h1 h2 h3 (a := (.ref ((kG K).1 + b) :: as.map (rv (kG K).1)).toArray) ?_ k
  rcases hl with hl | hl
  · exact va_runV (Ts := WT) ⟨hx, hb, hml, hown, hts⟩ (C _ _) ⟨callB_of n hts hG rfl rfl rfl (hts _ hm.2.1) (hts _ hl) hm.2.2 ⟨hR.1, hR.2.1⟩, hts _ hin, hts _ hsel⟩ ⟨px_blind, hrc, fun U hU hW => ⟨rfl, hpx U hU hW⟩⟩ rfl (by rw [List.length_map]; exact hn) h3.1 rfl (lv_room (by rw [rwd_eq]; exact hrw)) hd ⟨hR.2.2.1, hR.2.2.2⟩
  · exact va_runVN (Ts := WT) (host := RX9) ⟨hx, hb, hml, hown, hts⟩ (C _ _) ⟨va_cnB n hts hG rfl rfl rfl (hE.2.1 _ hl rfl) (hts _ hm.2.1) hm.2.2 ⟨hR.1, hR.2.1⟩, hts _ hin, hts _ hsel⟩ ⟨px_blind, hrc, fun U hU hW => ⟨rfl, hpx U hU hW⟩⟩ rfl (by rw [List.length_map]; exact hn) h3.1 rfl (lv_room (by rw [rwd_eq]; exact hrw)) hd ⟨hR.2.2.1, hR.2.2.2⟩
theorem wp_callI (G : Gd K cc own nL) {d n idx maxL b : Nat} {y : MethodName} {cb : ByteArray} {as : List PV} (hm : My y cb maxL none n) (hl : Mlk own idx y) (hin : Cond.instanceMethod y ∈ WT) (hini : y.name = "<init>") (hd : Dn cc pc (.invokespecial idx) 3 pc') (hs : stk = as.reverse ++ zR b :: rest) (hn : as.length = n) (hrw : rwd rest ≤ 8) (hR : d + 1 ≤ (kR K).frames ∧ 8 + (maxL + 11) + 40 * d ≤ (kR K).locals ∧ cs.1 + mm.1 ≤ (kR K).cells ∧ cs.2 + mm.2 ≤ (kR K).slots)
    (C : Cx d mm y cb maxL none (zR b :: as) hp.1 (hget hp) Qp) (k : ∀ r nx' l', Qp r nx' l' → Wp K nL Q (cs.1 + mm.1, cs.2 + mm.2) pc' lv (r.toList ++ rest) (nx', hp.2.1, asets hp.2.2 l')) : Wp K nL Q cs pc lv stk hp := by
  intro H locs ls h1 h2 h3
  have hpx := px_at G h1 h2
  obtain ⟨hx, hb, hml, hown, hts, hE, hSv, hlk, hz⟩ := G
  obtain ⟨hd, rfl⟩ := hd
  have hG : GoodIn WT (Cond.code y cb maxL none :: WT) := by
    intro w hw
    rcases List.mem_cons.mp hw with rfl | e
    · exact ⟨hm.1, wt_good hm.1⟩
    · exact ⟨e, wt_good e⟩
  have hst0 : stk.map (rv (kG K).1) = (as.map (rv (kG K).1)).reverse ++ .ref ((kG K).1 + b) :: rest.map (rv (kG K).1) := by rw [hs, List.map_append, List.map_reverse]; rfl
  rw [hst0]
  refine wp_back (y := y) h1 h2 h3 (a := (.ref ((kG K).1 + b) :: as.map (rv (kG K).1)).toArray) ?_ k
  rcases hl with hl | hl
  · exact va_runI (Ts := WT) ⟨hx, hb, hml, hown, hts⟩ (C _ _) ⟨callB_of n hts hG rfl rfl rfl (hts _ hm.2.1) (hts _ hl) hm.2.2 ⟨hR.1, hR.2.1⟩, hini, hts _ hin⟩ ⟨px_blind, fun U hU hW => ⟨rfl, hpx U hU hW⟩⟩ rfl (by rw [List.length_map]; exact hn) h3.1 rfl (lv_room (by rw [rwd_eq]; exact hrw)) hd ⟨hR.2.2.1, hR.2.2.2⟩
  · exact va_runIN (Ts := WT) (host := RX9) ⟨hx, hb, hml, hown, hts⟩ (C _ _) ⟨va_cnB n hts hG rfl rfl rfl (hE.2.1 _ hl rfl) (hts _ hm.2.1) hm.2.2 ⟨hR.1, hR.2.1⟩, hini, hts _ hin⟩ ⟨px_blind, fun U hU hW => ⟨rfl, hpx U hU hW⟩⟩ rfl (by rw [List.length_map]; exact hn) h3.1 rfl (lv_room (by rw [rwd_eq]; exact hrw)) hd ⟨hR.2.2.1, hR.2.2.2⟩
end RULES4
