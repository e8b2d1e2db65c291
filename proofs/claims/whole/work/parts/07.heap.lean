section RULES3
variable {K : KT} {nL : Nat} {Q : State → Prop} {cs : Nat × Nat} {pc pc' tgt : Nat} {lv : List (Nat × PV)} {stk : List PV} {hp : PH} {cc : ByteArray} {own : String}
/-! fields -/
def clTy : Nat → Nat → FieldType
  | 0 => tyX0 | 1 => tyX1 | 2 => tyX2 | 3 => tyX3 | 4 => tyX4 | 5 => tyX6 | 6 => tyX7 | 7 => tyX8 | 8 => tyX9 | _ => tyX10
/-- what the rows of the tables say of a class, the ci-th -/
def ClOk (ci : Nat) : Prop := ∃ r : vw_C, vwCl[ci]? = some r ∧ (∀ w ∈ u_ws r.1 r.2.1 r.2.2, w ∈ WT) ∧ (∀ k, k < r.2.2 → parseFieldDescriptor (r.2.1 k).2.2.1 = some (clTy ci k)) ∧ (∀ a, a < r.2.2 → ∀ b, b < r.2.2 → a ≠ b → (r.2.1 a).2.1 ≠ (r.2.1 b).2.1)
/-- the entry idx of own's pool is field k of the ci-th class -/
def Fx (own : String) (idx ci k : Nat) : Prop := ∃ r : vw_C, vwCl[ci]? = some r ∧ k < r.2.2 ∧ ((Cond.fieldLink own idx (r.2.1 k).1 (r.2.1 k).2.1 (r.2.1 k).2.2.1 ∈ lw_tbl ∧ goodWord (Cond.fieldLink own idx (r.2.1 k).1 (r.2.1 k).2.1 (r.2.1 k).2.2.1) = true) ∨ Cond.fieldLinkNest own idx (r.2.1 k).1 (r.2.1 k).2.1 (r.2.1 k).2.2.1 RX9 ∈ lw_tbl)
theorem wp_get (G : Gd K cc own nL) {idx r ci : Nat} (f : Nat) {fs : List PV} {v : PV} (hc : ClOk ci) (hf : Fx own idx ci f) (hd : Dn cc pc (.getfield idx) 3 pc') (ho : hget hp r = some (oO ci fs)) (hv : fs[f]? = some v) (k : Wp K nL Q cs pc' lv (v :: stk) hp) : Wp K nL Q cs pc lv (zR r :: stk) hp := by
  intro H locs ls h1 h2 h3
  obtain ⟨hx, hb, -, hown, hts, hE, -⟩ := G
  obtain ⟨hd, rfl⟩ := hd
  obtain ⟨q, hq, hin, -⟩ := hc
  obtain ⟨q2, hq2, hk, hl⟩ := hf
  cases hq.symm.trans hq2
  have hat := (h1.2 r _ ho).2
  have hP : va_P (kG K).2.1 vwCl [((kG K).1 + r, .inr (ci, fs.map (rv (kG K).1)))] H := fun j x hj => by
    have h0 : j < 1 := (List.getElem?_eq_some_iff.mp hj).1
    rw [show j = 0 by omega] at hj
    cases hj
    exact hat
  have hvv : (fs.map (rv (kG K).1))[f]? = some (rv (kG K).1 v) := by rw [List.getElem?_map, hv]; rfl
  rcases hl with ⟨hl, hg⟩ | hl
  · exact va_get hx hb hts hin hown hE.1 hP 0 rfl hq f hk (hts _ (wt_of hl hg)) (fun _ h => h) hvv hd (k H locs ls h1 h2 h3)
  · exact va_getN (host := RX9) hx hb hts hin hown hE.1 hP 0 rfl hq f hk (va_Nw.use rfl (hE.2.1 _ hl rfl)) (fun _ h => h) hvv hd (k H locs ls h1 h2 h3)
/-- what may stand in a field of that type -/
def fitF (ty : FieldType) (v : PV) : Prop := ∀ sz : Nat, narrow ty (rv sz v) = rv sz v ∧ fits ty (rv sz v) = true
theorem fit_int (z : Int) : fitF .int (zI z) := fun sz => ⟨rfl, rfl⟩
theorem fit_ref (t : FieldType) (r : Nat) : fitF (.array t) (zR r) := fun sz => ⟨rfl, rfl⟩
theorem fit_obj (t : String) (r : Nat) : fitF (.object t) (zR r) := fun sz => ⟨rfl, rfl⟩
theorem wp_put (G : Gd K cc own nL) {idx r ci : Nat} (f : Nat) {fs : List PV} {v : PV} (hc : ClOk ci) (hf : Fx own idx ci f) (hd : Dn cc pc (.putfield idx) 3 pc') (ho : hget hp r = some (oO ci fs)) (hlen : f < fs.length) (hfit : fitF (clTy ci f) v) (hfin : ∀ q, vwCl[ci]? = some q → (q.2.1 f).2.2.2 = false) (k : Wp K nL Q cs pc' lv stk (hset hp r (oO ci (fs.set f v)))) : Wp K nL Q cs pc lv (v :: zR r :: stk) hp := by
  intro H locs ls h1 h2 h3
  obtain ⟨hx, hb, -, hown, hts, hE, -⟩ := G
  obtain ⟨hd, rfl⟩ := hd
  obtain ⟨q, hq, hin, hty, hnm⟩ := hc
  obtain ⟨q2, hq2, hk, hl⟩ := hf
  cases hq.symm.trans hq2
  have hap := va_apart (own := own) hts hin (clTy ci) hty hnm hE.1 hq
  obtain ⟨r0, hr0, cell, q1, q2, q3, q4⟩ := (h1.2 r _ ho).2
  cases hq.symm.trans hr0
  obtain ⟨hS, hfc, kC0, hkC, hkind⟩ := hE.1.1 ci _ hq
  obtain ⟨cf, kf, fi, fd, hi, hsl⟩ := hS f hk
  have hlay := hts _ (hin _ (u_in_lay hk))
  unfold u_lay at hlay
  rw [if_neg (by rw [hfin _ hq]; decide)] at hlay
  have hst := (u_facts hfc hkC (u_lays hts hin hk) hi).1
  have h6 := u_store hfc hkC hkind hlay hi (hty f hk) (hfit (kG K).1).1 (hfit (kG K).1).2
  have fin : ∀ H' : Heap, H'[(kG K).1 + r]? = some (cell.setSlot fd.slot (rv (kG K).1 v)) → H'.size = H.size → (∀ q, q ≠ (kG K).1 + r → H'[q]? = H[q]?) → WK K H' (locs ++ [⟨(kG K).1 + r, fd.slot⟩]) cs Q (F0 (kM K) (pc + 3) ls (stk.map (rv (kG K).1))) := by
    intro H' e1 e2 e3
    rw [hsl] at e1
    refine k H' _ ls (h1.put ho e2 e3 ?_) (h2.put e2 e3 (Nat.le_add_right _ _)) h3
    refine ⟨_, hq, t_OB.to (V := updV (vp_V (fs.map (rv (kG K).1))) f (rv (kG K).1 v)) ⟨_, e1, q2, q3, t_set q4 hap hk _⟩ (fun j _ => ?_)⟩
    rw [vp_updV_set (by rw [List.length_map]; exact hlen), List.map_set]
  rcases hl with ⟨hl, hg⟩ | hl
  · exact W.putK hx hb (f := fd) ⟨hown, hts _ (wt_of hl hg), ⟨_, _, _, hi⟩, hst⟩ (by rw [q2]; exact h6) q1 q3 (by rw [hsl]; exact k2_hasslot (q4 f hk)) rfl rfl hd fin
  · exact va_WputK hx hb (f := fd) hown (va_Nw.use rfl (hE.2.1 _ hl rfl)) hi hst (by rw [q2]; exact h6) q1 q3 (by rw [hsl]; exact k2_hasslot (q4 f hk)) rfl rfl hd fin
theorem wp_putF (G : Gd K cc own nL) {idx r ci : Nat} (f : Nat) {fs : List PV} {v : PV} (hc : ClOk ci) (hf : Fx own idx ci f) (hd : Dn cc pc (.putfield idx) 3 pc') (ho : hget hp r = some (oO ci fs)) (hlen : f < fs.length) (hfit : fitF (clTy ci f) v) (hfin : ∀ q, vwCl[ci]? = some q → (q.2.1 f).2.2.2 = true ∧ (q.2.1 f).1 = own ∧ (Cond.fieldLink own idx (q.2.1 f).1 (q.2.1 f).2.1 (q.2.1 f).2.2.1 ∈ WT)) (hin2 : (kMeth K).name = "<init>") (k : Wp K nL Q cs pc' lv stk (hset hp r (oO ci (fs.set f v)))) : Wp K nL Q cs pc lv (v :: zR r :: stk) hp := by
  intro H locs ls h1 h2 h3
  obtain ⟨hx, hb, -, hown, hts, hE, -⟩ := G
  obtain ⟨hd, rfl⟩ := hd
  obtain ⟨q, hq, hin, hty, hnm⟩ := hc
  obtain ⟨q2, hq2, hk, hl⟩ := hf
  cases hq.symm.trans hq2
  have hap := va_apart (own := own) hts hin (clTy ci) hty hnm hE.1 hq
  obtain ⟨r0, hr0, cell, q1, q2, q3, q4⟩ := (h1.2 r _ ho).2
  cases hq.symm.trans hr0
  obtain ⟨hS, hfc, kC0, hkC, hkind⟩ := hE.1.1 ci _ hq
  obtain ⟨cf, kf, fi, fd, hi, hsl⟩ := hS f hk
  have hlay := hts _ (hin _ (u_in_lay hk))
  unfold u_lay at hlay
  rw [if_pos (hfin _ hq).1] at hlay
  have hst := (u_facts hfc hkC (u_lays hts hin hk) hi).1
  have hcf : (kM K).cls = cf := by
    obtain ⟨_, _, c', _, _, _, -, -, hf', -, -, -, hown2, -⟩ := Cond.laysFinal_spec hlay
    have e1 : c' = cf := by have := hi.symm.trans hf'; simp at this; exact this.1.symm
    rw [(hfin _ hq).2.1] at hown2
    rw [← e1]; exact Option.some.inj (hown.symm.trans hown2)
  have h6 := u_fits hfc hkC hkind (Or.inr hlay) hi (hty f hk) (hfit (kG K).1).1 (hfit (kG K).1).2
  refine W.putFinK hx hb hown (hts _ (hfin _ hq).2.2) hi hst hcf hin2 (by rw [q2]; exact h6) q1 q3 (by rw [hsl]; exact k2_hasslot (q4 f hk)) rfl rfl hd fun H' e1 e2 e3 => ?_
  rw [hsl] at e1
  refine k H' _ ls (h1.put ho e2 e3 ?_) (h2.put e2 e3 (Nat.le_add_right _ _)) h3
  refine ⟨_, hq, t_OB.to (V := updV (vp_V (fs.map (rv (kG K).1))) f (rv (kG K).1 v)) ⟨_, e1, q2, q3, t_set q4 hap hk _⟩ (fun j _ => ?_)⟩
  rw [vp_updV_set (by rw [List.length_map]; exact hlen), List.map_set]
/-! arrays -/
theorem inb {z : Int} {j n : Nat} (hz : z = (j : Int)) (hj : j < n) (hn : n < 2147483648) : vp_in (Int32.ofInt z) n := vp_in_iff.mpr (by rw [n32 (by omega)]; omega)
theorem inbN {z : Int} {j n : Nat} (hz : z = (j : Int)) (hj : j < n) (hn : n < 2147483648) : (Int32.ofInt z).toNatClampNeg = j := by
  rw [Int32.toNatClampNeg_ofInt_of_le (by omega) (by omega), hz]; rfl
theorem ev_arr {g : GT} {U : State} (h : Ev g U) (t : Nat) (ht : t < 6) : ArrOfT U (g.2.2 t) (aTy.getD t .int) ∧ va_RA U (g.2.2 t) (aTy.getD t .int) :=
  h.1.2 t (g.2.2 t, aTy.getD t .int) (by rw [List.getElem?_map, List.getElem?_range ht]; rfl)
theorem wp_iald (G : Gd K cc own nL) {r n j : Nat} {f : Nat → Int} {z : Int} (hd : Dn cc pc .iaload 1 pc') (ho : hget hp r = some (oA 0 n f)) (hz : z = (j : Int)) (hj : j < n) (hn : n < 2147483648) (k : Wp K nL Q cs pc' lv (zI (f j) :: stk) hp) : Wp K nL Q cs pc lv (zI z :: zR r :: stk) hp := by
  intro H locs ls h1 h2 h3
  obtain ⟨hx, hb, -, hown, hts, hE, -⟩ := G
  obtain ⟨hd, rfl⟩ := hd
  have e := inbN hz hj hn
  refine W.iald (a := (kG K).1 + r) (j := Int32.ofInt z) (v := .int (Int32.ofInt (f j))) hx hb (h1.2 r _ ho).2 ((ev_arr hE 0 (by decide)).1 n (fun j => .int (Int32.ofInt (f j)))) (fun q => by cases q) (by show ¬ (_ ∨ (arrV _ _ _).slots.size ≤ _); rw [arrV_size]; exact inb hz hj hn) (by show (arrV _ _ _).slots[_]? = _; rw [e, arrV_read _ _ hj]) rfl rfl hd (k H locs ls h1 h2 h3)
theorem wp_zald (G : Gd K cc own nL) {r n j : Nat} {f : Nat → Int} {z : Int} (hd : Dn cc pc .baload 1 pc') (ho : hget hp r = some (oA 1 n f)) (hz : z = (j : Int)) (hj : j < n) (hn : n < 2147483648) (k : Wp K nL Q cs pc' lv (zI (f j) :: stk) hp) : Wp K nL Q cs pc lv (zI z :: zR r :: stk) hp := by
  intro H locs ls h1 h2 h3
  obtain ⟨hx, hb, -, hown, hts, hE, -⟩ := G
  obtain ⟨hd, rfl⟩ := hd
  have e := inbN hz hj hn
  refine W.zald (a := (kG K).1 + r) (j := Int32.ofInt z) (v := .int (Int32.ofInt (f j))) hx hb (h1.2 r _ ho).2 ((ev_arr hE 1 (by decide)).1 n (fun j => .int (Int32.ofInt (f j)))) (fun q => by cases q) (by show ¬ (_ ∨ (arrV _ _ _).slots.size ≤ _); rw [arrV_size]; exact inb hz hj hn) (by show (arrV _ _ _).slots[_]? = _; rw [e, arrV_read _ _ hj]) rfl rfl hd (k H locs ls h1 h2 h3)
theorem wp_lald (G : Gd K cc own nL) {r n j : Nat} {f : Nat → Int} {z : Int} (hd : Dn cc pc .laload 1 pc') (ho : hget hp r = some (oL 2 n f)) (hz : z = (j : Int)) (hj : j < n) (hn : n < 2147483648) (k : Wp K nL Q cs pc' lv (zJ (f j) :: stk) hp) : Wp K nL Q cs pc lv (zI z :: zR r :: stk) hp := by
  intro H locs ls h1 h2 h3
  obtain ⟨hx, hb, -, hown, hts, hE, -⟩ := G
  obtain ⟨hd, rfl⟩ := hd
  have e := inbN hz hj hn
  refine W.lald (a := (kG K).1 + r) (j := Int32.ofInt z) (v := .long (Int64.ofInt (f j))) hx hb (h1.2 r _ ho).2 ((ev_arr hE 2 (by decide)).1 n (fun j => .long (Int64.ofInt (f j)))) (fun q => by cases q) (by show ¬ (_ ∨ (arrV _ _ _).slots.size ≤ _); rw [arrV_size]; exact inb hz hj hn) (by show (arrV _ _ _).slots[_]? = _; rw [e, arrV_read _ _ hj]) rfl rfl hd (k H locs ls h1 h2 h3)
theorem rf_map (sz : Nat) (r : Option Nat) : va_rf (r.map (fun k => sz + k)) = rv sz (zQ r) := by cases r <;> rfl
theorem wp_aald (G : Gd K cc own nL) {r t n j : Nat} {f : Nat → Option Nat} {z : Int} (ht : 3 ≤ t) (ht2 : t < 6) (hd : Dn cc pc .aaload 1 pc') (ho : hget hp r = some (oP t n f)) (hz : z = (j : Int)) (hj : j < n) (hn : n < 2147483648) (k : Wp K nL Q cs pc' lv (zQ (f j) :: stk) hp) : Wp K nL Q cs pc lv (zI z :: zR r :: stk) hp := by
  intro H locs ls h1 h2 h3
  obtain ⟨hx, hb, -, hown, hts, hE, -⟩ := G
  obtain ⟨hd, rfl⟩ := hd
  have e := inbN hz hj hn
  have hr : (aTy.getD t .int).isReference = true := by
    rcases (show t = 3 ∨ t = 4 ∨ t = 5 by omega) with rfl | rfl | rfl <;> rfl
  refine W.aald (a := (kG K).1 + r) (j := Int32.ofInt z) (v := rv (kG K).1 (zQ (f j))) (ty := aTy.getD t .int) hx hb (h1.2 r _ ho).2 ((ev_arr hE t ht2).1 n (fun j => va_rf ((f j).map (fun k => (kG K).1 + k)))) hr (fun q => by cases q) (by show ¬ (_ ∨ (arrV _ _ _).slots.size ≤ _); rw [arrV_size]; exact inb hz hj hn) (by show (arrV _ _ _).slots[_]? = _; rw [e, arrV_read _ _ hj, rf_map]) rfl rfl hd (k H locs ls h1 h2 h3)
theorem wp_alen (G : Gd K cc own nL) {r t n : Nat} {f : Nat → Int} (ht : t < 2) (hd : Dn cc pc .arraylength 1 pc') (ho : hget hp r = some (oA t n f)) (k : Wp K nL Q cs pc' lv (zI (n : Int) :: stk) hp) : Wp K nL Q cs pc lv (zR r :: stk) hp := by
  intro H locs ls h1 h2 h3
  obtain ⟨hx, hb, -, hown, hts, hE, -⟩ := G
  obtain ⟨hd, rfl⟩ := hd
  refine W.alen (a := (kG K).1 + r) (n := Int32.ofInt (n : Int)) (ty := aTy.getD t .int) hx hb (h1.2 r _ ho).2 ((ev_arr hE t (by omega)).1 n (fun j => .int (Int32.ofInt (f j)))) ?_ rfl rfl hd (k H locs ls h1 h2 h3)
  show (arrV _ _ _).slots.size.toInt32 = _
  rw [arrV_size]
  exact (Int32.ofInt_eq_ofNat).symm
theorem updV_fup (f : Nat → Int) (j : Nat) (x : Int) : updV (fun q => Value.int (Int32.ofInt (f q))) j (.int (Int32.ofInt x)) = fun q => Value.int (Int32.ofInt (fup f j x q)) := by
  funext q
  by_cases h : q = j <;> simp [updV, fup, h]
theorem updV_fupL (f : Nat → Int) (j : Nat) (x : Int) : updV (fun q => Value.long (Int64.ofInt (f q))) j (.long (Int64.ofInt x)) = fun q => Value.long (Int64.ofInt (fup f j x q)) := by
  funext q
  by_cases h : q = j <;> simp [updV, fup, h]
theorem wp_iast (G : Gd K cc own nL) {r n j : Nat} {f : Nat → Int} {z x : Int} (hd : Dn cc pc .iastore 1 pc') (ho : hget hp r = some (oA 0 n f)) (hz : z = (j : Int)) (hj : j < n) (hn : n < 2147483648) (k : Wp K nL Q cs pc' lv stk (hset hp r (oA 0 n (fup f j x)))) : Wp K nL Q cs pc lv (zI x :: zI z :: zR r :: stk) hp := by
  intro H locs ls h1 h2 h3
  obtain ⟨hx, hb, -, hown, hts, hE, -⟩ := G
  obtain ⟨hd, rfl⟩ := hd
  have e := inbN hz hj hn
  refine W.iast (a := (kG K).1 + r) (j := Int32.ofInt z) (x := Int32.ofInt x) hx hb (h1.2 r _ ho).2 ((ev_arr hE 0 (by decide)).1 n (fun j => .int (Int32.ofInt (f j)))) (fun q => by cases q) (by show ¬ (_ ∨ (arrV _ _ _).slots.size ≤ _); rw [arrV_size]; exact inb hz hj hn) rfl rfl hd fun H' e1 e2 e3 => ?_
  refine k H' _ ls (h1.put ho e2 e3 ?_) (h2.put e2 e3 (Nat.le_add_right _ _)) h3
  show H'[_]? = some (vp_cell _ _)
  rw [e1, e]
  dsimp only
  rw [vp_cell_i, vp_cell_i, arrV_store, updV_fup]
theorem wp_last (G : Gd K cc own nL) {r n j : Nat} {f : Nat → Int} {z x : Int} (hd : Dn cc pc .lastore 1 pc') (ho : hget hp r = some (oL 2 n f)) (hz : z = (j : Int)) (hj : j < n) (hn : n < 2147483648) (k : Wp K nL Q cs pc' lv stk (hset hp r (oL 2 n (fup f j x)))) : Wp K nL Q cs pc lv (zJ x :: zI z :: zR r :: stk) hp := by
  intro H locs ls h1 h2 h3
  obtain ⟨hx, hb, -, hown, hts, hE, -⟩ := G
  obtain ⟨hd, rfl⟩ := hd
  have e := inbN hz hj hn
  refine W.last (a := (kG K).1 + r) (j := Int32.ofInt z) (x := Int64.ofInt x) hx hb (h1.2 r _ ho).2 ((ev_arr hE 2 (by decide)).1 n (fun j => .long (Int64.ofInt (f j)))) (fun q => by cases q) (by show ¬ (_ ∨ (arrV _ _ _).slots.size ≤ _); rw [arrV_size]; exact inb hz hj hn) rfl rfl hd fun H' e1 e2 e3 => ?_
  refine k H' _ ls (h1.put ho e2 e3 ?_) (h2.put e2 e3 (Nat.le_add_right _ _)) h3
  show H'[_]? = some (vp_cell _ _)
  rw [e1, e]
  dsimp only
  rw [vp_cell_l, vp_cell_l, arrV_store, updV_fupL]
theorem wp_zast (G : Gd K cc own nL) {r n j : Nat} {f : Nat → Int} {z x : Int} (hx01 : x = 0 ∨ x = 1) (hd : Dn cc pc .bastore 1 pc') (ho : hget hp r = some (oA 1 n f)) (hz : z = (j : Int)) (hj : j < n) (hn : n < 2147483648) (k : Wp K nL Q cs pc' lv stk (hset hp r (oA 1 n (fup f j x)))) : Wp K nL Q cs pc lv (zI x :: zI z :: zR r :: stk) hp := by
  intro H locs ls h1 h2 h3
  obtain ⟨hx, hb, -, hown, hts, hE, -⟩ := G
  obtain ⟨hd, rfl⟩ := hd
  have e := inbN hz hj hn
  have en : narrow .boolean (.int (Int32.ofInt x)) = .int (Int32.ofInt x) := by rcases hx01 with rfl | rfl <;> decide
  refine W.zast (a := (kG K).1 + r) (j := Int32.ofInt z) (x := Int32.ofInt x) hx hb (h1.2 r _ ho).2 ((ev_arr hE 1 (by decide)).1 n (fun j => .int (Int32.ofInt (f j)))) (fun q => by cases q) (by show ¬ (_ ∨ (arrV _ _ _).slots.size ≤ _); rw [arrV_size]; exact inb hz hj hn) rfl rfl hd fun H' e1 e2 e3 => ?_
  refine k H' _ ls (h1.put ho e2 e3 ?_) (h2.put e2 e3 (Nat.le_add_right _ _)) h3
  show H'[_]? = some (vp_cell _ _)
  rw [e1, e, en]
  dsimp only
  rw [vp_cell_i, vp_cell_i, arrV_store, updV_fup]
end RULES3
