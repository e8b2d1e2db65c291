/-! bits -/
section BITS
variable {K : KT} {nL : Nat} {Q : State → Prop} {cs : Nat × Nat} {pc pc' : Nat} {lv : List (Nat × PV)} {stk : List PV} {hp : PH} {cc : ByteArray} {own : String}
theorem o32 (a : Nat) : Int32.ofInt (a : Int) = Int32.ofNat a := Int32.ofInt_eq_ofNat
theorem tb32 (a : Nat) : (Int32.ofNat a).toBitVec = BitVec.ofNat 32 a := rfl
theorem sh_cnt : ∀ k, k < 31 → ((Int32.ofNat k &&& 31).toBitVec.smod 32).toNat = k := by decide +kernel
theorem shr32 {a k : Nat} (ha : a < 2147483648) (hk : k < 31) : Int32.ofInt (a : Int) >>> (Int32.ofInt (k : Int) &&& 31) = Int32.ofInt ((a / 2 ^ k : Nat) : Int) := by
  rw [o32, o32, o32]
  apply Int32.toBitVec_inj.mp
  have e : (Int32.ofNat a >>> (Int32.ofNat k &&& 31)).toBitVec = (Int32.ofNat a).toBitVec.sshiftRight' ((Int32.ofNat k &&& 31).toBitVec.smod 32) := rfl
  rw [e]
  show (Int32.ofNat a).toBitVec.sshiftRight ((Int32.ofNat k &&& 31).toBitVec.smod 32).toNat = _
  rw [sh_cnt k hk, tb32, tb32]
  apply BitVec.eq_of_toNat_eq
  have hm : (BitVec.ofNat 32 a).msb = false := by
    rw [BitVec.msb_eq_decide]
    simp only [BitVec.toNat_ofNat, decide_eq_false_iff_not]
    rw [Nat.mod_eq_of_lt (by omega)]
    omega
  rw [BitVec.toNat_sshiftRight_of_msb_false hm]
  simp only [BitVec.toNat_ofNat]
  have h2 : a / 2 ^ k ≤ a := Nat.div_le_self _ _
  rw [Nat.mod_eq_of_lt (by omega), Nat.mod_eq_of_lt (by omega), Nat.shiftRight_eq_div_pow]
theorem and32 {a b : Nat} (ha : a < 2147483648) (hb : b < 2147483648) : Int32.ofInt (a : Int) &&& Int32.ofInt (b : Int) = Int32.ofInt ((a &&& b : Nat) : Int) := by
  rw [o32, o32, o32]
  apply Int32.toBitVec_inj.mp
  rw [Int32.toBitVec_and, tb32, tb32, tb32]
  apply BitVec.eq_of_toNat_eq
  rw [BitVec.toNat_and]
  simp only [BitVec.toNat_ofNat]
  have := Nat.and_le_left (n := a) (m := b)
  rw [Nat.mod_eq_of_lt (by omega), Nat.mod_eq_of_lt (by omega), Nat.mod_eq_of_lt (by omega)]
theorem or32 {a b : Nat} (ha : a < 1073741824) (hb : b < 1073741824) : Int32.ofInt (a : Int) ||| Int32.ofInt (b : Int) = Int32.ofInt ((a ||| b : Nat) : Int) := by
  rw [o32, o32, o32]
  apply Int32.toBitVec_inj.mp
  rw [Int32.toBitVec_or, tb32, tb32, tb32]
  apply BitVec.eq_of_toNat_eq
  rw [BitVec.toNat_or]
  simp only [BitVec.toNat_ofNat]
  have h3 : a ||| b < 2 ^ 30 := Nat.or_lt_two_pow (by omega) (by omega)
  rw [Nat.mod_eq_of_lt (by omega), Nat.mod_eq_of_lt (by omega), Nat.mod_eq_of_lt (by omega)]
theorem shl1 : ∀ k, k < 31 → (1 : Int32) <<< (Int32.ofNat k &&& 31) = Int32.ofNat (2 ^ k) := by decide +kernel
theorem shl1L : ∀ k, k < 31 → (1 : Int64) <<< ((Int32.ofNat k).toInt64 &&& 63) = Int64.ofNat (2 ^ k) := by decide +kernel
theorem wp_ishr (G : Gd K cc own nL) {a k : Nat} {za zk : Int} (ea : za = ((a : Nat) : Int)) (ek : zk = ((k : Nat) : Int)) (ha : a < 2147483648) (hk : k < 31) (hd : Dn cc pc .ishr 1 pc') (kk : Wp K nL Q cs pc' lv (zI ((a / 2 ^ k : Nat) : Int) :: stk) hp) : Wp K nL Q cs pc lv (zI zk :: zI za :: stk) hp := by
  subst ea ek
  intro H locs ls h1 h2 h3
  obtain ⟨hx, hb, -⟩ := G
  obtain ⟨hd, rfl⟩ := hd
  refine lv_ishr (x := Int32.ofInt (a : Int)) (y := Int32.ofInt (k : Int)) hx hb hd ?_
  rw [shr32 ha hk]
  exact kk H locs ls h1 h2 h3
theorem wp_iand (G : Gd K cc own nL) {a b : Nat} {za zb : Int} (ea : za = ((a : Nat) : Int)) (eb : zb = ((b : Nat) : Int)) (ha : a < 2147483648) (hb0 : b < 2147483648) (hd : Dn cc pc .iand 1 pc') (kk : Wp K nL Q cs pc' lv (zI ((a &&& b : Nat) : Int) :: stk) hp) : Wp K nL Q cs pc lv (zI zb :: zI za :: stk) hp := by
  subst ea eb
  intro H locs ls h1 h2 h3
  obtain ⟨hx, hb, -⟩ := G
  obtain ⟨hd, rfl⟩ := hd
  refine lv_iand (x := Int32.ofInt (a : Int)) (y := Int32.ofInt (b : Int)) hx hb hd ?_
  rw [and32 ha hb0]
  exact kk H locs ls h1 h2 h3
theorem wp_iand1 (G : Gd K cc own nL) {a : Nat} {za : Int} (ea : za = ((a : Nat) : Int)) (ha : a < 2147483648) (hd : Dn cc pc .iand 1 pc') (kk : Wp K nL Q cs pc' lv (zI ((a % 2 : Nat) : Int) :: stk) hp) : Wp K nL Q cs pc lv (zI 1 :: zI za :: stk) hp := by
  refine wp_iand (a := a) (b := 1) G ea rfl ha (by decide) hd ?_
  rw [Nat.and_one_is_mod]
  exact kk
theorem wp_ior (G : Gd K cc own nL) {a b : Nat} {za zb : Int} (ea : za = ((a : Nat) : Int)) (eb : zb = ((b : Nat) : Int)) (ha : a < 1073741824) (hb0 : b < 1073741824) (hd : Dn cc pc .ior 1 pc') (kk : Wp K nL Q cs pc' lv (zI ((a ||| b : Nat) : Int) :: stk) hp) : Wp K nL Q cs pc lv (zI zb :: zI za :: stk) hp := by
  subst ea eb
  intro H locs ls h1 h2 h3
  obtain ⟨hx, hb, -⟩ := G
  obtain ⟨hd, rfl⟩ := hd
  refine lv_ior (x := Int32.ofInt (a : Int)) (y := Int32.ofInt (b : Int)) hx hb hd ?_
  rw [or32 ha hb0]
  exact kk H locs ls h1 h2 h3
theorem wp_ishl1 (G : Gd K cc own nL) {k : Nat} {zk : Int} (ek : zk = ((k : Nat) : Int)) (hk : k < 31) (hd : Dn cc pc .ishl 1 pc') (kk : Wp K nL Q cs pc' lv (zI ((2 ^ k : Nat) : Int) :: stk) hp) : Wp K nL Q cs pc lv (zI zk :: zI 1 :: stk) hp := by
  subst ek
  intro H locs ls h1 h2 h3
  obtain ⟨hx, hb, -⟩ := G
  obtain ⟨hd, rfl⟩ := hd
  refine lv_ishl (x := Int32.ofInt 1) (y := Int32.ofInt (k : Int)) hx hb hd ?_
  have e : Int32.ofInt 1 <<< (Int32.ofInt (k : Int) &&& 31) = Int32.ofInt ((2 ^ k : Nat) : Int) := by rw [o32, o32]; exact shl1 k hk
  rw [e]
  exact kk H locs ls h1 h2 h3
theorem wp_lshl1 (G : Gd K cc own nL) {k : Nat} {zk : Int} (ek : zk = ((k : Nat) : Int)) (hk : k < 31) (hd : Dn cc pc .lshl 1 pc') (kk : Wp K nL Q cs pc' lv (zJ ((2 ^ k : Nat) : Int) :: stk) hp) : Wp K nL Q cs pc lv (zI zk :: zJ 1 :: stk) hp := by
  subst ek
  intro H locs ls h1 h2 h3
  obtain ⟨hx, hb, -⟩ := G
  obtain ⟨hd, rfl⟩ := hd
  refine lv_lshl (x := Int64.ofInt 1) (y := Int32.ofInt (k : Int)) hx hb hd ?_ (kk H locs ls h1 h2 h3)
  rw [o32, Int64.ofInt_eq_ofNat]
  exact shl1L k hk
def xZ (a b : Int) : Int := (Int64.ofInt a ^^^ Int64.ofInt b).toInt
theorem xZ_r (a b : Int) : r64 (xZ a b) := by
  have h1 := Int64.le_toInt (Int64.ofInt a ^^^ Int64.ofInt b)
  have h2 := Int64.toInt_lt (Int64.ofInt a ^^^ Int64.ofInt b)
  unfold xZ
  omega
theorem wp_lxor (G : Gd K cc own nL) {a b : Int} (hd : Dn cc pc .lxor 1 pc') (kk : Wp K nL Q cs pc' lv (zJ (xZ a b) :: stk) hp) : Wp K nL Q cs pc lv (zJ b :: zJ a :: stk) hp := by
  intro H locs ls h1 h2 h3
  obtain ⟨hx, hb, -⟩ := G
  obtain ⟨hd, rfl⟩ := hd
  refine lv_lxor (x := Int64.ofInt a) (y := Int64.ofInt b) hx hb hd ?_
  have e : Int64.ofInt a ^^^ Int64.ofInt b = Int64.ofInt (xZ a b) := by unfold xZ; rw [Int64.ofInt_toInt]
  rw [e]
  exact kk H locs ls h1 h2 h3
theorem neg64 {a : Int} (ra : r64 a) : (Int64.ofInt a).toBitVec.msb = decide (a < 0) := by
  rw [BitVec.msb_eq_toInt]
  have : (Int64.ofInt a).toBitVec.toInt = a := n64 ra
  rw [this]
theorem xZ_s {a b : Int} (ra : r64 a) (rb : r64 b) (hb : 0 ≤ b) : xZ a b < 0 ↔ a < 0 := by
  have e : (Int64.ofInt a ^^^ Int64.ofInt b).toBitVec.msb = (decide (a < 0) ^^ decide (b < 0)) := by
    rw [Int64.toBitVec_xor, BitVec.msb_xor, neg64 ra, neg64 rb]
  rw [BitVec.msb_eq_toInt] at e
  have e2 : (Int64.ofInt a ^^^ Int64.ofInt b).toBitVec.toInt = xZ a b := rfl
  rw [e2] at e
  have hb2 : decide (b < 0) = false := decide_eq_false (by omega)
  rw [hb2, Bool.xor_false] at e
  exact decide_eq_decide.mp e
theorem cx_ofF {d : Nat} {mm : Nat × Nat} {y : MethodName} {cc : ByteArray} {maxL : Nat} {ret : Option FieldType} {as : List PV} {nx : Nat} {h : Nat → Option PC} {Qp : Option PV → Nat → List (Nat × PC) → Prop} (hy : plainFor y = true) (hw : pwd as ≤ maxL)
    (body : ∀ K : KT, Gd K cc y.cls maxL → (kMeth K).sig.returnType = ret → (kMeth K).name = y.name → kR K = rmx d mm.1 mm.2 → Wp K maxL (Mx K h Qp mm) (0, 0) 0 (pargs 0 as) [] (nx, h, [])) : Cx d mm y cc maxL ret as nx h Qp := by
  intro l g
  refine va_MetF (cc := cc) (maxL := maxL) (ret := ret) hy rfl ?_
  intro p e s m args below meth c s₁ B hml hv
  obtain ⟨rfl, hE, hSv, hR, hsz⟩ := hv
  have hts := atoms_spec (ws := Cond.code y cc maxL ret :: WT) B.pre
  have hb := body (p, l, e, rmx d mm.1 mm.2, s, m, (as.map (rv g.1)).toArray, below, meth, c, g) ⟨B.exec, B.bytes, hml, findClass_of_methodNamed B.named, fun w hw => hts w (List.mem_cons_of_mem _ hw), hE, hSv, B.notSynchronized, hsz⟩ B.returns (name_of_methodNamed B.named B.method).1 rfl
  have hl := lv_entry (as.map (rv g.1)) (n := maxL) (by rw [pwd_len]; exact hw)
  rw [lg_entry_eq]
  rw [pargs_map] at hl
  exact hb s.heap [] _ hR va_S.rf hl
end BITS
