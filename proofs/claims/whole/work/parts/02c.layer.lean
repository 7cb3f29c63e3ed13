section
variable {X : GX} {R : Room} {cc : ByteArray} {nL : Nat} {Ts : List Cond} {own : String} {ini sb : Bool} {Z : Nat → ClassId} {Φ : Option Value → va_W → Prop} {mc ms k n : Nat} {ws : va_W} {lv : List (Nat × Value)} {st : List Value} {pc q : Nat}
/-! numbers -/
abbrev bI (b : Bool) : Int32 := nI b.toNat
theorem bI_t {b : Bool} (h : b = true) : bI b = nI 1 := by subst h; rfl
theorem bI_f {b : Bool} (h : b = false) : bI b = nI 0 := by subst h; rfl
theorem nu_lit (c : Nat) : (OfNat.ofNat c : Int32) = nI c := rfl
theorem nu_and (a b : Nat) : nI a &&& nI b = nI (a &&& b) := by
  apply Int32.toBitVec_inj.mp
  show BitVec.ofNat 32 a &&& BitVec.ofNat 32 b = BitVec.ofNat 32 (a &&& b)
  apply BitVec.eq_of_getLsbD_eq
  intro i hi
  simp [BitVec.getLsbD_and, BitVec.getLsbD_ofNat, hi, Nat.testBit_and]
theorem nu_or (a b : Nat) : nI a ||| nI b = nI (a ||| b) := by
  apply Int32.toBitVec_inj.mp
  show BitVec.ofNat 32 a ||| BitVec.ofNat 32 b = BitVec.ofNat 32 (a ||| b)
  apply BitVec.eq_of_getLsbD_eq
  intro i hi
  simp [BitVec.getLsbD_or, BitVec.getLsbD_ofNat, hi, Nat.testBit_or]
theorem nu_sl : ∀ n, n < 32 → ((nI n &&& 31).toBitVec.smod 32).toNat = n := by decide +kernel
theorem nu_su : ∀ n, n < 32 → (((nI n).toUInt32 &&& Int32.toUInt32 31).toBitVec % 32).toNat = n := by decide +kernel
theorem nu_shl {a b : Nat} (hb : b < 32) (h : a * 2 ^ b < 4294967296) : nI a <<< (nI b &&& 31) = nI (a <<< b) := by
  rw [pk_shlN (nI b &&& 31) b (nu_sl b hb) h, Nat.shiftLeft_eq]
theorem nu_shr {a b : Nat} (hb : b < 32) (h : a < 2147483648) : nI a >>> (nI b &&& 31) = nI (a >>> b) := by
  rw [pk_shrN h (nI b &&& 31) b (nu_sl b hb), Nat.shiftRight_eq_div_pow]
theorem nu_ushr {a b : Nat} (hb : b < 32) (h : a < 4294967296) : ((nI a).toUInt32 >>> ((nI b).toUInt32 &&& Int32.toUInt32 31)).toInt32 = nI (a >>> b) := by
  rw [pk_ushrN h (nI b) b (nu_su b hb), Nat.shiftRight_eq_div_pow]
/-! rows on numbers told as naturals -/
theorem G_iaddN {a b : Nat} (hd : decode cc pc = .ok (.iadd, 1))  (hq : pc + 1 = q) (kk : GG X R cc nL Ts own ini sb Z Φ mc ms k n ws lv (.int (nI (a + b)) :: st) q) : GG X R cc nL Ts own ini sb Z Φ mc ms k n ws lv (.int (nI b) :: .int (nI a) :: st) pc :=
  G_iaddE hd  (nI (a + b)) (nI_add a b) hq kk
theorem G_isubN {a b : Nat} (hd : decode cc pc = .ok (.isub, 1)) (h : b ≤ a) (hq : pc + 1 = q) (kk : GG X R cc nL Ts own ini sb Z Φ mc ms k n ws lv (.int (nI (a - b)) :: st) q) : GG X R cc nL Ts own ini sb Z Φ mc ms k n ws lv (.int (nI b) :: .int (nI a) :: st) pc :=
  G_isubE hd  (nI (a - b)) (pk_sub h) hq kk
theorem G_imulN {a b : Nat} (hd : decode cc pc = .ok (.imul, 1))  (hq : pc + 1 = q) (kk : GG X R cc nL Ts own ini sb Z Φ mc ms k n ws lv (.int (nI (a * b)) :: st) q) : GG X R cc nL Ts own ini sb Z Φ mc ms k n ws lv (.int (nI b) :: .int (nI a) :: st) pc :=
  G_imulE hd  (nI (a * b)) (pk_mul a b) hq kk
theorem nz_ne {b : Nat} (h0 : 0 < b) (hb : b < 2147483648) : ¬ nI b = 0 := fun h => absurd (nz_eqT hb h) (Nat.pos_iff_ne_zero.mp h0)
theorem G_idivN {a b : Nat} (hd : decode cc pc = .ok (.idiv, 1)) (ha : a < 2147483648) (h0 : 0 < b) (hb2 : b < 2147483648) (hq : pc + 1 = q) (kk : GG X R cc nL Ts own ini sb Z Φ mc ms k n ws lv (.int (nI (a / b)) :: st) q) : GG X R cc nL Ts own ini sb Z Φ mc ms k n ws lv (.int (nI b) :: .int (nI a) :: st) pc :=
  G_idivE hd (nz_ne h0 hb2) (nI (a / b)) (pk_div ha h0 hb2) hq kk
theorem G_iremN {a b : Nat} (hd : decode cc pc = .ok (.irem, 1)) (ha : a < 2147483648) (h0 : 0 < b) (hb2 : b < 2147483648) (hq : pc + 1 = q) (kk : GG X R cc nL Ts own ini sb Z Φ mc ms k n ws lv (.int (nI (a % b)) :: st) q) : GG X R cc nL Ts own ini sb Z Φ mc ms k n ws lv (.int (nI b) :: .int (nI a) :: st) pc :=
  G_iremE hd (nz_ne h0 hb2) (nI (a % b)) (pk_rem ha h0 hb2) hq kk
theorem G_iandN {a b : Nat} (hd : decode cc pc = .ok (.iand, 1))  (hq : pc + 1 = q) (kk : GG X R cc nL Ts own ini sb Z Φ mc ms k n ws lv (.int (nI (a &&& b)) :: st) q) : GG X R cc nL Ts own ini sb Z Φ mc ms k n ws lv (.int (nI b) :: .int (nI a) :: st) pc :=
  G_iandE hd  (nI (a &&& b)) (nu_and a b) hq kk
theorem G_iorN {a b : Nat} (hd : decode cc pc = .ok (.ior, 1))  (hq : pc + 1 = q) (kk : GG X R cc nL Ts own ini sb Z Φ mc ms k n ws lv (.int (nI (a ||| b)) :: st) q) : GG X R cc nL Ts own ini sb Z Φ mc ms k n ws lv (.int (nI b) :: .int (nI a) :: st) pc :=
  G_iorE hd  (nI (a ||| b)) (nu_or a b) hq kk
theorem G_ishlN {a b : Nat} (hd : decode cc pc = .ok (.ishl, 1)) (hb2 : b < 32) (h : a * 2 ^ b < 4294967296) (hq : pc + 1 = q) (kk : GG X R cc nL Ts own ini sb Z Φ mc ms k n ws lv (.int (nI (a <<< b)) :: st) q) : GG X R cc nL Ts own ini sb Z Φ mc ms k n ws lv (.int (nI b) :: .int (nI a) :: st) pc :=
  G_ishlE hd  (nI (a <<< b)) (nu_shl hb2 h) hq kk
theorem G_ishrN {a b : Nat} (hd : decode cc pc = .ok (.ishr, 1)) (hb2 : b < 32) (h : a < 2147483648) (hq : pc + 1 = q) (kk : GG X R cc nL Ts own ini sb Z Φ mc ms k n ws lv (.int (nI (a >>> b)) :: st) q) : GG X R cc nL Ts own ini sb Z Φ mc ms k n ws lv (.int (nI b) :: .int (nI a) :: st) pc :=
  G_ishrE hd  (nI (a >>> b)) (nu_shr hb2 h) hq kk
theorem G_iushrN {a b : Nat} (hd : decode cc pc = .ok (.iushr, 1)) (hb2 : b < 32) (h : a < 4294967296) (hq : pc + 1 = q) (kk : GG X R cc nL Ts own ini sb Z Φ mc ms k n ws lv (.int (nI (a >>> b)) :: st) q) : GG X R cc nL Ts own ini sb Z Φ mc ms k n ws lv (.int (nI b) :: .int (nI a) :: st) pc :=
  G_iushrE hd  (nI (a >>> b)) (nu_ushr hb2 h) hq kk
theorem G_iincN {i : Nat} {z : Int} {x d : Nat} {lv2 : List (Nat × Value)} (hd : decode cc pc = .ok (.iinc i z, 3)) (a : Nat) (ha : lv[a]? = some (i, .int (nI x))) (hz : Int32.ofInt z = nI d) (hn : i < nL) (hv : lvset (lv.filter (fun q => !(q.1 == i) && !(q.1 + 1 == i && q.2.category == 2))) i (.int (nI (x + d))) = lv2) (hq : pc + 3 = q) (kk : GG X R cc nL Ts own ini sb Z Φ mc ms k n ws lv2 (st) q) : GG X R cc nL Ts own ini sb Z Φ mc ms k n ws lv (st) pc :=
  G_iinc hd a ha (by rw [hz, nI_add]) hn hv hq kk
/-! booleans -/
theorem tn_0 {b : Bool} (h : b.toNat = 0) : b = false := by cases b <;> simp_all
theorem tn_1 {b : Bool} (h : b.toNat ≠ 0) : b = true := by cases b <;> simp_all
theorem G_if_eqB {b : Bool} {off : Int} {tgt : Nat} (hd : decode cc pc = .ok (.ifCond .eq off, 3)) (ht : (pc : Int) + off = (tgt : Int)) (hq : pc + 3 = q) (kt : b = false → GG X R cc nL Ts own ini sb Z Φ mc ms k n ws lv (st) tgt) (kf : b = true → GG X R cc nL Ts own ini sb Z Φ mc ms k n ws lv (st) q) : GG X R cc nL Ts own ini sb Z Φ mc ms k n ws lv (.int (bI b) :: st) pc :=
  G_if_eqN hd ht hq (by cases b <;> decide) (fun h => kt (tn_0 h)) (fun h => kf (tn_1 h))
theorem G_if_neB {b : Bool} {off : Int} {tgt : Nat} (hd : decode cc pc = .ok (.ifCond .ne off, 3)) (ht : (pc : Int) + off = (tgt : Int)) (hq : pc + 3 = q) (kt : b = true → GG X R cc nL Ts own ini sb Z Φ mc ms k n ws lv (st) tgt) (kf : b = false → GG X R cc nL Ts own ini sb Z Φ mc ms k n ws lv (st) q) : GG X R cc nL Ts own ini sb Z Φ mc ms k n ws lv (.int (bI b) :: st) pc :=
  G_if_neN hd ht hq (by cases b <;> decide) (fun h => kt (tn_1 h)) (fun h => kf (tn_0 h))
theorem bI_01 (b : Bool) : narrow .boolean (.int (bI b)) = .int (bI b) := by cases b <;> rfl
theorem bI_nar (b : Bool) : vp_nar .boolean (bI b) = bI b := by cases b <;> rfl
theorem n01 {a : Nat} (h : a ≤ 1) : narrow .boolean (.int (nI a)) = .int (nI a) := by
  rcases (show a = 0 ∨ a = 1 by omega) with rfl | rfl <;> rfl
theorem v01 {a : Nat} (h : a ≤ 1) : vp_nar .boolean (nI a) = nI a := by
  rcases (show a = 0 ∨ a = 1 by omega) with rfl | rfl <;> rfl
theorem c7_all : ∀ a, a < 128 → (((nI a).toUInt32 % 65536).toInt32 = nI a ∧ narrow .char (.int (nI a)) = .int (nI a) ∧ vp_nar .char (nI a) = nI a) := by decide +kernel
/-! longs, switches -/
theorem G_lcmp {x y : Int64} (hd : decode cc pc = .ok (.lcmp, 1)) (z : Int32) (hz : lg_cmp x y = z) (hq : pc + 1 = q) (kk : GG X R cc nL Ts own ini sb Z Φ mc ms k n ws lv (.int z :: st) q) : GG X R cc nL Ts own ini sb Z Φ mc ms k n ws lv (.long y :: .long x :: st) pc := by
  obtain ⟨p, l, e, s, m, args, below, meth, c, D, A, Q⟩ := X
  intro S I E F H locs ls hW hl
  obtain ⟨hx, hb, hml, hown, hts⟩ := id S
  obtain ⟨hK, hP, hD, hS, hA⟩ := id hW
  subst hq; subst hz
  exact W.lcmp hx hb hd (kk S I E F H locs ls hW hl)
theorem G_tabI {x : Int32} {dflt lo hi off : Int} {offs : Array Int} {len : Nat} (hd : decode cc pc = .ok (.tableswitch dflt lo hi offs, len)) (h1 : ¬ x.toInt < lo) (h2 : ¬ hi < x.toInt) (ho : offs[(x.toInt - lo).toNat]? = some off) (hq : (pc : Int) + off = (q : Int)) (kk : GG X R cc nL Ts own ini sb Z Φ mc ms k n ws lv (st) q) : GG X R cc nL Ts own ini sb Z Φ mc ms k n ws lv (.int x :: st) pc := by
  obtain ⟨p, l, e, s, m, args, below, meth, c, D, A, Q⟩ := X
  intro S I E F H locs ls hW hl
  obtain ⟨hx, hb, hml, hown, hts⟩ := id S
  obtain ⟨hK, hP, hD, hS, hA⟩ := id hW
  exact lv_tableIn hx hb hd h1 h2 ho hq (kk S I E F H locs ls hW hl)
theorem G_tabO {x : Int32} {dflt lo hi : Int} {offs : Array Int} {len : Nat} (hd : decode cc pc = .ok (.tableswitch dflt lo hi offs, len)) (h : x.toInt < lo ∨ hi < x.toInt) (hq : (pc : Int) + dflt = (q : Int)) (kk : GG X R cc nL Ts own ini sb Z Φ mc ms k n ws lv (st) q) : GG X R cc nL Ts own ini sb Z Φ mc ms k n ws lv (.int x :: st) pc := by
  obtain ⟨p, l, e, s, m, args, below, meth, c, D, A, Q⟩ := X
  intro S I E F H locs ls hW hl
  obtain ⟨hx, hb, hml, hown, hts⟩ := id S
  obtain ⟨hK, hP, hD, hS, hA⟩ := id hW
  exact lv_tableOut hx hb hd h hq (kk S I E F H locs ls hW hl)
theorem G_look {x : Int32} {dflt off : Int} {ps : Array (Int × Int)} {len : Nat} (hd : decode cc pc = .ok (.lookupswitch dflt ps, len)) (hp : (ps.toList.zip (ps.toList.drop 1)).all (fun (a, next) => a.1 < next.1) = true) (ho : Op.lookupswitch.offset ps.toList dflt x.toInt = off) (hq : (pc : Int) + off = (q : Int)) (kk : GG X R cc nL Ts own ini sb Z Φ mc ms k n ws lv (st) q) : GG X R cc nL Ts own ini sb Z Φ mc ms k n ws lv (.int x :: st) pc := by
  obtain ⟨p, l, e, s, m, args, below, meth, c, D, A, Q⟩ := X
  intro S I E F H locs ls hW hl
  obtain ⟨hx, hb, hml, hown, hts⟩ := id S
  obtain ⟨hK, hP, hD, hS, hA⟩ := id hW
  exact lv_lookup hx hb hd hp ho hq (kk S I E F H locs ls hW hl)
theorem G_ifnull {x : Nat} {off : Int} (hd : decode cc pc = .ok (.ifnull off, 3)) (hq : pc + 3 = q) (kk : GG X R cc nL Ts own ini sb Z Φ mc ms k n ws lv (st) q) : GG X R cc nL Ts own ini sb Z Φ mc ms k n ws lv (.ref x :: st) pc := by
  obtain ⟨p, l, e, s, m, args, below, meth, c, D, A, Q⟩ := X
  intro S I E F H locs ls hW hl
  obtain ⟨hx, hb, hml, hown, hts⟩ := id S
  obtain ⟨hK, hP, hD, hS, hA⟩ := id hW
  subst hq
  exact lv_ifnull hx hb hd (kk S I E F H locs ls hW hl)
/-! calls whose answer is told -/
theorem put_self : ∀ (is : List Nat) (ws w0 : va_W), is.map (fun i => ws[i]?) = w0.map some → putw ws is w0 = ws
  | [], ws, w0, _ => by cases w0 <;> rfl
  | i :: is, ws, [], h => rfl
  | i :: is, ws, c :: w, h => by
    simp only [List.map_cons, List.cons.injEq] at h
    have h1 : ws.set i c = ws := by
      obtain ⟨hlt, h2⟩ := List.getElem?_eq_some_iff.mp h.1
      rw [← h2]
      exact List.set_getElem_self hlt
    show putw (ws.set i c) is w = ws
    rw [h1]
    exact put_self is ws w h.2
theorem G_callVX {sb2 : Bool} {y : MethodName} {Tc : List Cond} {Rc : Room} {bytes : ByteArray} {maxL nn index b ci : Nat} {ret : Option FieldType} {C : String} {T : u_T} {N : Nat} {fs : List Value} {As rest st2 : List Value} {w0 w1 ws2 : va_W} {v : Option Value} (hd : decode cc pc = .ok (.invokevirtual index, 3)) (is : List Nat) (hC : Ct sb2 y Tc Rc (.ref b :: As) Z w0 (rX v w1) 0 0) (hsb : sb2 = true → sb = true) (hk : CS y Tc bytes maxL ret nn) (hG : GoodIn Ts (wsV own index C y Tc)) (hcls : y.cls = C) (hR : Rc.frames + 1 ≤ R.frames ∧ 8 + (maxL + 11) + Rc.locals ≤ R.locals) (hrm : Rc.cells = 0 ∧ Rc.slots = 0) (q0 : Nat) (hrec : ws[q0]? = some (b, .inr (ci, fs))) (hci : vwCl[ci]? = some (C, T, N)) (hs : is.map (fun i => ws[i]?) = w0.map some) (hnd : va_nd is = true) (hAs : As.length = nn) (hst : st = As.reverse ++ .ref b :: rest) (hcat : (rest.map fun v => v.category).sum ≤ 8) (hroom : k ≤ R.cells ∧ n ≤ R.slots) (hf1 : w1.map Prod.fst = w0.map Prod.fst) (hws : putw ws is w1 = ws2) (hst2 : v.toList ++ rest = st2) (hq : pc + 3 = q) (kk : GG X R cc nL Ts own ini sb Z Φ mc ms k n ws2 lv (st2) q) : GG X R cc nL Ts own ini sb Z Φ mc ms k n ws lv (st) pc := by
  subst hws; subst hst2
  refine G_callV hd is hC hsb hk hG hcls hR hrm q0 hrec hci hs hnd hAs hst hcat hroom (fun v w h => ?_) hq (fun v w h => ?_)
  · rw [h.2]; exact hf1
  · obtain ⟨rfl, rfl⟩ := h
    exact kk
theorem G_callVP {sb2 : Bool} {y : MethodName} {Tc : List Cond} {Rc : Room} {bytes : ByteArray} {maxL nn index b ci : Nat} {ret : Option FieldType} {C : String} {T : u_T} {N : Nat} {fs : List Value} {As rest st2 : List Value} {w0 : va_W} {v : Option Value} (hd : decode cc pc = .ok (.invokevirtual index, 3)) (is : List Nat) (hC : Ct sb2 y Tc Rc (.ref b :: As) Z w0 (rX v w0) 0 0) (hsb : sb2 = true → sb = true) (hk : CS y Tc bytes maxL ret nn) (hG : GoodIn Ts (wsV own index C y Tc)) (hcls : y.cls = C) (hR : Rc.frames + 1 ≤ R.frames ∧ 8 + (maxL + 11) + Rc.locals ≤ R.locals) (hrm : Rc.cells = 0 ∧ Rc.slots = 0) (q0 : Nat) (hrec : ws[q0]? = some (b, .inr (ci, fs))) (hci : vwCl[ci]? = some (C, T, N)) (hs : is.map (fun i => ws[i]?) = w0.map some) (hnd : va_nd is = true) (hAs : As.length = nn) (hst : st = As.reverse ++ .ref b :: rest) (hcat : (rest.map fun v => v.category).sum ≤ 8) (hroom : k ≤ R.cells ∧ n ≤ R.slots) (hst2 : v.toList ++ rest = st2) (hq : pc + 3 = q) (kk : GG X R cc nL Ts own ini sb Z Φ mc ms k n ws lv (st2) q) : GG X R cc nL Ts own ini sb Z Φ mc ms k n ws lv (st) pc := by
  subst hst2
  refine G_callV hd is hC hsb hk hG hcls hR hrm q0 hrec hci hs hnd hAs hst hcat hroom (fun v w h => ?_) hq (fun v w h => ?_)
  · rw [h.2]
  · obtain ⟨rfl, rfl⟩ := h
    rw [put_self is ws _ hs]
    exact kk
theorem G_callSX {sb2 : Bool} {y : MethodName} {Tc : List Cond} {Rc : Room} {bytes : ByteArray} {maxL nn index : Nat} {ret : Option FieldType} {As rest st2 : List Value} {w0 w1 ws2 : va_W} {v : Option Value} (hd : decode cc pc = .ok (.invokestatic index, 3)) (is : List Nat) (hC : Ct sb2 y Tc Rc As Z w0 (rX v w1) 0 0) (hsb : sb2 = true → sb = true) (hk : CS y Tc bytes maxL ret nn) (hG : GoodIn Ts (va_wsS own index y Tc)) (hR : Rc.frames + 1 ≤ R.frames ∧ 8 + (maxL + 11) + Rc.locals ≤ R.locals) (hrm : Rc.cells = 0 ∧ Rc.slots = 0)  (hs : is.map (fun i => ws[i]?) = w0.map some) (hnd : va_nd is = true) (hAs : As.length = nn) (hst : st = As.reverse ++ rest) (hcat : (rest.map fun v => v.category).sum ≤ 8) (hroom : k ≤ R.cells ∧ n ≤ R.slots) (hf1 : w1.map Prod.fst = w0.map Prod.fst) (hws : putw ws is w1 = ws2) (hst2 : v.toList ++ rest = st2) (hq : pc + 3 = q) (kk : GG X R cc nL Ts own ini sb Z Φ mc ms k n ws2 lv (st2) q) : GG X R cc nL Ts own ini sb Z Φ mc ms k n ws lv (st) pc := by
  subst hws; subst hst2
  refine G_callS hd is hC hsb hk hG hR hrm hs hnd hAs hst hcat hroom (fun v w h => ?_) hq (fun v w h => ?_)
  · rw [h.2]; exact hf1
  · obtain ⟨rfl, rfl⟩ := h
    exact kk
theorem G_callSP {sb2 : Bool} {y : MethodName} {Tc : List Cond} {Rc : Room} {bytes : ByteArray} {maxL nn index : Nat} {ret : Option FieldType} {As rest st2 : List Value} {w0 : va_W} {v : Option Value} (hd : decode cc pc = .ok (.invokestatic index, 3)) (is : List Nat) (hC : Ct sb2 y Tc Rc As Z w0 (rX v w0) 0 0) (hsb : sb2 = true → sb = true) (hk : CS y Tc bytes maxL ret nn) (hG : GoodIn Ts (va_wsS own index y Tc)) (hR : Rc.frames + 1 ≤ R.frames ∧ 8 + (maxL + 11) + Rc.locals ≤ R.locals) (hrm : Rc.cells = 0 ∧ Rc.slots = 0)  (hs : is.map (fun i => ws[i]?) = w0.map some) (hnd : va_nd is = true) (hAs : As.length = nn) (hst : st = As.reverse ++ rest) (hcat : (rest.map fun v => v.category).sum ≤ 8) (hroom : k ≤ R.cells ∧ n ≤ R.slots) (hst2 : v.toList ++ rest = st2) (hq : pc + 3 = q) (kk : GG X R cc nL Ts own ini sb Z Φ mc ms k n ws lv (st2) q) : GG X R cc nL Ts own ini sb Z Φ mc ms k n ws lv (st) pc := by
  subst hst2
  refine G_callS hd is hC hsb hk hG hR hrm hs hnd hAs hst hcat hroom (fun v w h => ?_) hq (fun v w h => ?_)
  · rw [h.2]
  · obtain ⟨rfl, rfl⟩ := h
    rw [put_self is ws _ hs]
    exact kk
/-! Math.min, Math.max, System.arraycopy -/
theorem G_min {x y : Int32} {index : Nat} (hd : decode cc pc = .ok (.invokestatic index, 3)) (h1 : Cond.methodLink own index Lib.Math.min.name ∈ Ts) (h2 : Cond.static Lib.Math.min.name ∈ Ts) (h3 : Cond.initialized "java/lang/Math" ∈ Ts) (h4 : Cond.code Lib.Math.min.name Lib.Math.min.code 2 (some .int) ∈ Ts) (hfr : 1 ≤ R.frames) (hlo : (st.map fun v => v.category).sum + 13 ≤ R.locals) (hroom : k ≤ R.cells ∧ n ≤ R.slots) (z : Int32) (hz : (if y < x then y else x) = z) (hq : pc + 3 = q) (kk : GG X R cc nL Ts own ini sb Z Φ mc ms k n ws lv (.int z :: st) q) : GG X R cc nL Ts own ini sb Z Φ mc ms k n ws lv (.int y :: .int x :: st) pc := by
  obtain ⟨p, l, e, s, m, args, below, meth, c, D, A, Q⟩ := X
  intro S I E F H locs ls hW hl
  obtain ⟨hx, hb, hml, hown, hts⟩ := id S
  obtain ⟨hK, hP, hD, hS, hA⟩ := id hW
  subst hq; subst hz
  exact va_mmin hx hb (hml.trans hl.1.symm) hown (hts _ h1) (hts _ h2) (hts _ h3) (hts _ h4) hfr hlo hroom.1 hroom.2 hd (kk S I E F H locs ls hW hl)
theorem G_max {x y : Int32} {index : Nat} (hd : decode cc pc = .ok (.invokestatic index, 3)) (h1 : Cond.methodLink own index Lib.Math.max.name ∈ Ts) (h2 : Cond.static Lib.Math.max.name ∈ Ts) (h3 : Cond.initialized "java/lang/Math" ∈ Ts) (h4 : Cond.code Lib.Math.max.name Lib.Math.max.code 2 (some .int) ∈ Ts) (hfr : 1 ≤ R.frames) (hlo : (st.map fun v => v.category).sum + 13 ≤ R.locals) (hroom : k ≤ R.cells ∧ n ≤ R.slots) (z : Int32) (hz : (if x < y then y else x) = z) (hq : pc + 3 = q) (kk : GG X R cc nL Ts own ini sb Z Φ mc ms k n ws lv (.int z :: st) q) : GG X R cc nL Ts own ini sb Z Φ mc ms k n ws lv (.int y :: .int x :: st) pc := by
  obtain ⟨p, l, e, s, m, args, below, meth, c, D, A, Q⟩ := X
  intro S I E F H locs ls hW hl
  obtain ⟨hx, hb, hml, hown, hts⟩ := id S
  obtain ⟨hK, hP, hD, hS, hA⟩ := id hW
  subst hq; subst hz
  exact va_mmax hx hb (hml.trans hl.1.symm) hown (hts _ h1) (hts _ h2) (hts _ h3) (hts _ h4) hfr hlo hroom.1 hroom.2 hd (kk S I E F H locs ls hW hl)
/-- a whole row copied from its start, f's first M over g's -/
theorem G_copy {index a0 a1 n0 n1 : Nat} {f g : Nat → Int32} {ws2 : va_W} (hd : decode cc pc = .ok (.invokestatic index, 3)) (h1 : Cond.methodLink own index arraycopyName ∈ Ts) (h2 : Cond.native arraycopyName ∈ Ts) (h3 : Cond.static arraycopyName ∈ Ts) (h4 : Cond.initialized "java/lang/System" ∈ Ts) (hfr : 1 ≤ R.frames) (hlo : (st.map fun v => v.category).sum + (nativeFrameWords "java/lang/System" "arraycopy" 5 + 11) ≤ R.locals)
    (q0 q1 : Nat) (ha0 : ws[q0]? = some (a0, .inl (Z 0, n0, .inl f))) (ha1 : ws[q1]? = some (a1, .inl (Z 0, n1, .inl g))) (M : Nat) (hM0 : M ≤ n0) (hM1 : M ≤ n1) (hMb : M < 2147483648) (hws : ws.set q1 (a1, .inl (Z 0, n1, .inl (va_cpy f g 0 0 M))) = ws2) (hq : pc + 3 = q) (kk : GG X R cc nL Ts own ini sb Z Φ mc ms k n ws2 lv (st) q) : GG X R cc nL Ts own ini sb Z Φ mc ms k n ws lv (.int (nI M) :: .int (nI 0) :: .ref a1 :: .int (nI 0) :: .ref a0 :: st) pc := by
  obtain ⟨p, l, e, s, m, args, below, meth, c, D, A, Q⟩ := X
  intro S I E F H locs ls hW hl
  obtain ⟨hx, hb, hml, hown, hts⟩ := id S
  obtain ⟨hK, hP, hD, hS, hA⟩ := id hW
  subst hq; subst hws
  have c0 : (nI 0).toNatClampNeg = 0 := nI_clamp (by decide)
  have cM : (nI M).toNatClampNeg = M := nI_clamp hMb
  refine va_copyi hx hb (hml.trans hl.1.symm) hown (hts _ h1) (hts _ h2) (hts _ h3) (hts _ h4) hK hP hD hS q0 q1 0 0 ha0 ha1 rfl rfl rfl (nI_pos (by decide)) (nI_pos (by decide)) (nI_pos hMb) (by rw [c0, cM]; omega) (by rw [c0, cM]; omega) (fun _ _ => rfl) hfr hlo hd (fun H1 L1 p1 d1 s1 => ?_)
  rw [c0, cM] at p1 d1
  exact kk S I E F H1 L1 ls ⟨hK, p1, d1, s1, hA⟩ hl
theorem cpy_all {f g : Nat → Int32} {N j : Nat} (h : j < N) : va_cpy f g 0 0 N j = f j := by
  unfold va_cpy
  rw [if_pos ⟨Nat.zero_le _, by omega⟩]
  congr 1
  omega
/-! what is made -/
theorem G_obj {a idx : Nat} (hd : decode cc pc = .ok (.invokespecial idx, 3)) (h1 : Cond.methodLink own idx objectInit ∈ Ts) (h2 : Cond.instanceMethod objectInit ∈ Ts) (h3 : Cond.code objectInit ⟨#[0xb1]⟩ 1 none ∈ Ts) (hfr : 1 ≤ R.frames) (hlo : (st.map fun v => v.category).sum + 12 ≤ R.locals) (hq : pc + 3 = q) (kk : GG X R cc nL Ts own ini sb Z Φ mc ms k n ws lv (st) q) : GG X R cc nL Ts own ini sb Z Φ mc ms k n ws lv (.ref a :: st) pc := by
  obtain ⟨p, l, e, s, m, args, below, meth, c, D, A, Q⟩ := X
  intro S I E F H locs ls hW hl
  obtain ⟨hx, hb, hml, hown, hts⟩ := id S
  obtain ⟨hK, hP, hD, hS, hA⟩ := id hW
  subst hq
  exact W.objInit hx hb hown (hts _ h1) (hts _ h2) (hts _ h3) rfl (by rw [hml]; exact hl.1) rfl hd hfr (by show 2 * 0 + _ + 12 ≤ _; omega) (kk S I E F H locs ls hW hl)
theorem G_new {index ci N : Nat} {C : String} {T : u_T} {ty : Nat → FieldType} {fs : List Value} {k2 n2 : Nat} (hd : decode cc pc = .ok (.new index, 3)) (hc : vwCl[ci]? = some (C, T, N)) (hcf : CF T N ty) (hin : ∀ w ∈ u_ws C T N, w ∈ Ts) (h1 : Cond.classLink own index C ∈ Ts) (h2 : Cond.instantiable C N ∈ Ts) (h3 : Cond.initialized C ∈ Ts) (hfs : ∀ j, j < N → defaultValue (ty j) = vp_V fs j) (hk2 : k + 1 = k2) (hn2 : n + N = n2) (hr : k2 ≤ R.cells ∧ n2 ≤ R.slots) (hq : pc + 3 = q)
    (kk : ∀ a : Nat, GG X R cc nL Ts own ini sb Z Φ mc ms k2 n2 (ws ++ [(a, .inr (ci, fs))]) lv (.ref a :: st) q) : GG X R cc nL Ts own ini sb Z Φ mc ms k n ws lv (st) pc := by
  obtain ⟨p, l, e, s, m, args, below, meth, c, D, A, Q⟩ := X
  intro S I E F H locs ls hW hl
  obtain ⟨hx, hb, hml, hown, hts⟩ := id S
  obtain ⟨hK, hP, hD, hS, hA⟩ := id hW
  subst hq; subst hk2; subst hn2
  exact va_new hx hb hts hin ty hcf.1 hown (hts _ h1) (hts _ h2) (hts _ h3) hK hP hD hS hA hc hfs hr.1 hr.2 hd (fun a H1 p1 d1 s1 => kk a S I E F H1 locs ls ⟨hK, p1, d1, s1, hA⟩ hl)
theorem tz_uni {D : va_G} {s : State} {cA : ClassId} {ty : FieldType} {zi : Nat} {tys : List (ClassId × FieldType)} (h1 : tys[zi]? = some (Z zi, ty)) (h2 : va_K D vwCl (tys ++ [(cA, ty)]) s) (hp : (∃ C, ty = .object C) ∨ True) : cA = Z zi := by
  have hlt := (List.getElem?_eq_some_iff.mp h1).1
  have a1 := (h2.2 zi (Z zi, ty) (by rw [List.getElem?_append_left hlt]; exact h1)).2
  have a2 := (h2.2 tys.length (cA, ty) (by simp)).2
  cases ty with
  | object C =>
    obtain ⟨-, -, -, -, -, b1⟩ := a1
    obtain ⟨-, -, -, -, -, b2⟩ := a2
    exact Option.some.inj (b2.symm.trans b1)
  | _ => exact Option.some.inj ((show s.vm.findClass _ = some cA from a2).symm.trans a1)
theorem G_newa {N k2 n2 zi : Nat} {atype : ArrayType} {ty : FieldType} (hd : decode cc pc = .ok (.newarray atype, 2)) (hty : newarray.typeOf atype = ty) (hz : (tz Z)[zi]? = some (Z zi, ty)) (hdf : defaultValue ty = .int 0) (h1 : Cond.arrayClass (newarray.typeOf atype) ∈ Ts) (hN : N ≤ 10000) (hcb : componentBytes ty ≤ 8) (hk2 : k + 1 = k2) (hn2 : n + N = n2) (hr : k2 ≤ R.cells ∧ n2 ≤ R.slots) (hq : pc + 2 = q)
    (kk : ∀ a : Nat, GG X R cc nL Ts own ini sb Z Φ mc ms k2 n2 (ws ++ [(a, .inl (Z zi, N, .inl (fun _ => 0)))]) lv (.ref a :: st) q) : GG X R cc nL Ts own ini sb Z Φ mc ms k n ws lv (.int (nI N) :: st) pc := by
  obtain ⟨p, l, e, s, m, args, below, meth, c, D, A, Q⟩ := X
  intro S I E F H locs ls hW hl
  obtain ⟨hx, hb, hml, hown, hts⟩ := id S
  obtain ⟨hK, hP, hD, hS, hA⟩ := id hW
  subst hq; subst hk2; subst hn2
  have hb1 : N < 2147483648 := by omega
  refine va_newa (a0 := (N, .inl (fun _ => 0))) hx hb (hts _ h1) hty hK hP hD hS hA (fun cA => by rw [hdf]; rfl) (nI_pos hb1) (nI_clamp hb1) (by have := Nat.mul_le_mul hN hcb; omega) hr.1 hr.2 hd (fun a cA H1 K1 p1 d1 s1 => ?_)
  have e := tz_uni (Z := Z) hz K1 (Or.inr trivial)
  subst e
  exact kk a S I E F H1 locs ls ⟨hK, p1, d1, s1, hA⟩ hl
theorem G_newq {N k2 n2 index : Nat} (hd : decode cc pc = .ok (.anewarray index, 3)) (h1 : Cond.classLink own index RX1 ∈ Ts) (hN : N ≤ 10000) (hk2 : k + 1 = k2) (hn2 : n + N = n2) (hr : k2 ≤ R.cells ∧ n2 ≤ R.slots) (hq : pc + 3 = q)
    (kk : ∀ a : Nat, GG X R cc nL Ts own ini sb Z Φ mc ms k2 n2 (ws ++ [(a, .inl (Z 3, N, .inr (.inr (.inr (.inr (fun _ => none))))))]) lv (.ref a :: st) q) : GG X R cc nL Ts own ini sb Z Φ mc ms k n ws lv (.int (nI N) :: st) pc := by
  obtain ⟨p, l, e, s, m, args, below, meth, c, D, A, Q⟩ := X
  intro S I E F H locs ls hW hl
  obtain ⟨hx, hb, hml, hown, hts⟩ := id S
  obtain ⟨hK, hP, hD, hS, hA⟩ := id hW
  subst hq; subst hk2; subst hn2
  have hb1 : N < 2147483648 := by omega
  refine va_newq hx hb hown (hts _ h1) E.2.1 hK hP hD hS hA (nI_pos hb1) (nI_clamp hb1) (by omega) hr.1 hr.2 hd (fun a cA H1 K1 p1 d1 s1 => ?_)
  have e := tz_uni (Z := Z) (zi := 3) rfl K1 (Or.inr trivial)
  subst e
  exact kk a S I E F H1 locs ls ⟨hK, p1, d1, s1, hA⟩ hl
/-- behind a constructor: its cells in place, what it made at the end -/
theorem put_more {A0 : Nat → Prop} {D : va_G} {cl : List vw_C} {is : List Nat} {ws w0 w1 ext : va_W} {H H1 : Heap} (hP : va_P D cl ws H) (hD : va_D A0 ws) (hs : is.map (fun i => ws[i]?) = w0.map some) (hn : va_nd is = true) (hf : w1.map Prod.fst = w0.map Prod.fst)
    (hk : ∀ q : Nat, q < H.size → ¬ va_A w0 H.size q → H1[q]? = H[q]?) (hF : ∀ q, va_A w0 H.size q → A0 q) (hP1 : va_P D cl (w1 ++ ext) H1) (hD1 : va_D (va_A w0 H.size) (w1 ++ ext)) : va_P D cl (putw ws is w1 ++ ext) H1 ∧ va_D A0 (putw ws is w1 ++ ext) := by
  have hPw : va_P D cl w1 H1 := fun i x hx => hP1 i x (by rw [List.getElem?_append_left (List.getElem?_eq_some_iff.mp hx).1]; exact hx)
  have hPe : va_P D cl ext H1 := fun i x hx => hP1 (w1.length + i) x (by rw [List.getElem?_append_right (Nat.le_add_right _ _), Nat.add_sub_cancel_left]; exact hx)
  obtain ⟨j1, j2⟩ := put_join hP hD hs hn hf hk hPw
  have hlen : w1.length = w0.length := by simpa using congrArg List.length hf
  have fresh : ∀ (i : Nat) (x : Nat × va_E), ext[i]? = some x → H.size ≤ x.1 := by
    intro i x hx
    have hx2 : (w1 ++ ext)[w1.length + i]? = some x := by rw [List.getElem?_append_right (Nat.le_add_right _ _), Nat.add_sub_cancel_left]; exact hx
    rcases hD1.2 _ x hx2 with ⟨t, e, h3⟩ | h3
    · obtain ⟨y, h4, h5⟩ := fst_get hf.symm h3
      have h6 : t < w1.length := (List.getElem?_eq_some_iff.mp h4).1
      have h7 := hD1.1 t (w1.length + i) y x (by rw [List.getElem?_append_left h6]; exact h4) hx2 h5
      omega
    · exact h3
  have hDe : va_D A0 ext := by
    refine ⟨fun i j x y hx hy he => ?_, fun i x hx => hF x.1 (Or.inr (fresh i x hx))⟩
    have h1 := hD1.1 (w1.length + i) (w1.length + j) x y (by rw [List.getElem?_append_right (Nat.le_add_right _ _), Nat.add_sub_cancel_left]; exact hx) (by rw [List.getElem?_append_right (Nat.le_add_right _ _), Nat.add_sub_cancel_left]; exact hy) he
    omega
  refine ⟨va_P.app j1 hPe, va_D.app j2 hDe (fun i j x y hx hy he => ?_)⟩
  obtain ⟨z, h1, h2⟩ := fst_get (put_fst is w1 ws w0 hs hf hn) hx
  have h3 := (hP i z h1).lt
  have h4 := fresh j y hy
  rw [h2, he] at h3
  omega
theorem G_runN {sb2 : Bool} {y : MethodName} {Tc : List Cond} {Rc : Room} {as rest : List Value} {w0 : va_W} {Φc : Option Value → va_W → Prop} {mc2 ms2 : Nat} (is : List Nat) (hs : is.map (fun i => ws[i]?) = w0.map some) (hn : va_nd is = true)
    (hrun : ∀ (p : Program) (l : Launch) (e : Env) (s : State) (m : MethodId) (args : Array Value) (below : List Frame) (meth : Method) (c : Code) (D : va_G) (A : Nat → Prop) (H : Heap) (locs : List Loc) (ls : Array Slot), CallFix p m c cc nL s args Ts own → ls.size = nL → NW s → va_K D vwCl (tz Z) s → va_P D vwCl w0 H → va_D (fun _ => True) w0 → (∀ U : State, U.heap = H → s.WarmedH U.vm → EE sb2 Z U (va_A w0 H.size)) → Met l y Tc Rc (va_Pc as (fun U => U.heap.size = H.size ∧ va_P D vwCl w0 U.heap ∧ va_K D vwCl (tz Z) U ∧ va_D (fun _ => True) w0 ∧ EE sb2 Z U (va_A w0 H.size))) (QG D Z Φc (va_A w0 H.size)) mc2 ms2 (va_A w0 H.size) →
      va_Run p l e R s m args below meth c H locs k n mc2 ms2 (F0 m pc ls st) rest (QG D Z Φc (va_A w0 H.size) as.toArray) (va_A w0 H.size))
    (hsb : sb2 = true → sb = true) (hC : Ct sb2 y Tc Rc as Z w0 Φc mc2 ms2)
    (kk : ∀ (v : Option Value) (w : va_W), Φc v w → ∃ w1 ext : va_W, w = w1 ++ ext ∧ w1.map Prod.fst = w0.map Prod.fst ∧ GG X R cc nL Ts own ini sb Z Φ mc ms (k + mc2) (n + ms2) (putw ws is w1 ++ ext) lv (v.toList ++ rest) (pc + 3)) : GG X R cc nL Ts own ini sb Z Φ mc ms k n ws lv (st) pc := by
  obtain ⟨p, l, e, s, m, args, below, meth, c, D, A, Q⟩ := X
  intro S I E F H locs ls hW hl
  obtain ⟨hx, hb, hml, hown, hts⟩ := id S
  obtain ⟨hK, hP, hD, hS, hA⟩ := id hW
  have hP0 := sub_P hs hP
  have hD0 := sub_D hs hn hD
  have hF : ∀ q, va_A w0 H.size q → A q := fun q h => by
    rcases h with ⟨t, e0, h3⟩ | h3
    · exact hD0.2 t (q, e0) h3
    · exact hA q (Nat.le_trans hS.1 h3)
  have hr := hrun p l e s m args below meth c D A H locs ls S hl.1 E.1 hK hP0 (hD0.weaken (fun _ _ _ _ => trivial)) (fun U hU hWm => E.call hWm hU hS hF hsb) (hC l D H.size)
  intro T hT XX
  obtain ⟨v, st₀, t, T', L, h0, X', hL, e1, e2, ⟨⟨v2, w, hv, hΦ, hp1, hd1⟩, hz, hkeep⟩, stp⟩ := hr T hT XX
  cases hv
  rw [h0] at hz hkeep
  obtain ⟨w1, ext, rfl, hf, kk2⟩ := kk v w hΦ
  obtain ⟨j1, j2⟩ := put_more hP hD hs hn hf hkeep hF hp1 hd1
  obtain ⟨t2, a1, b1⟩ := kk2 S I E F T'.heap (locs ++ L) ls ⟨hK, by rw [e1]; exact j1, j2, ⟨Nat.le_trans hS.1 (by rw [e1]; exact hz), fun q h1 h2 => by rw [e1, hkeep q (Nat.lt_of_lt_of_le h1 hS.1) (fun z => h2 (hF q z))]; exact hS.2.1 q h1 h2, fun q hq => by
      rcases List.mem_append.mp hq with h | h
      · exact hS.2.2 q h
      · exact hF _ (hL q h)⟩, hA⟩ hl T' rfl X'
  exact ⟨t2, stp t2 a1, b1⟩
/-- a constructor: of one's own link, or a nest mate's -/
theorem G_callI {sb2 : Bool} {y : MethodName} {Tc : List Cond} {Rc : Room} {bytes : ByteArray} {maxL nn index b mc2 ms2 : Nat} {As rest : List Value} {w0 : va_W} {Φc : Option Value → va_W → Prop} (hd : decode cc pc = .ok (.invokespecial index, 3)) (is : List Nat)
    (hC : Ct sb2 y Tc Rc (.ref b :: As) Z w0 Φc mc2 ms2) (hsb : sb2 = true → sb = true) (hk : CS y Tc bytes maxL none nn) (hG : GoodIn Ts Tc) (hini : Cond.initialized y.cls ∈ Ts) (hl1 : Cond.methodLink own index y ∈ Ts) (hl2 : Cond.instanceMethod y ∈ Ts) (hy : y.name = "<init>") (hR : Rc.frames + 1 ≤ R.frames ∧ 8 + (maxL + 11) + Rc.locals ≤ R.locals) (hrm : Rc.cells = mc2 ∧ Rc.slots = ms2)
    (hs : is.map (fun i => ws[i]?) = w0.map some) (hnd : va_nd is = true) (hAs : As.length = nn) (hst : st = As.reverse ++ .ref b :: rest) (hcat : (rest.map fun v => v.category).sum ≤ 8) (hroom : k + mc2 ≤ R.cells ∧ n + ms2 ≤ R.slots) (hq : pc + 3 = q)
    (kk : ∀ (v : Option Value) (w : va_W), Φc v w → ∃ w1 ext : va_W, w = w1 ++ ext ∧ w1.map Prod.fst = w0.map Prod.fst ∧ GG X R cc nL Ts own ini sb Z Φ mc ms (k + mc2) (n + ms2) (putw ws is w1 ++ ext) lv (v.toList ++ rest) q) : GG X R cc nL Ts own ini sb Z Φ mc ms k n ws lv (st) pc := by
  subst hq
  obtain ⟨⟨w2, hw⟩, hy1, hy2, hy3⟩ := hk
  refine G_runN (rest := rest) is hs hnd (fun p l e s m args below meth c D A H locs ls S hls hNW hK hP0 hD0 hEE hM => ?_) hsb hC kk
  exact va_runI S hM (cwI nn S.2.2.2.2 hG hw hrm.1 hrm.2 (S.2.2.2.2 _ hini) (S.2.2.2.2 _ hl1) (S.2.2.2.2 _ hl2) hy ⟨hy1, hy2, hy3⟩ hR) ⟨fb_Ct, fun U hU hW => ⟨rfl, by rw [hU], by rw [hU]; exact hP0, va_K.moved hW.alike hK, hD0, hEE U hU hW⟩⟩ rfl hAs hls hst (lv_room hcat) hd hroom
theorem G_callIN {sb2 : Bool} {y : MethodName} {Tc : List Cond} {Rc : Room} {bytes : ByteArray} {maxL nn index b mc2 ms2 : Nat} {host : String} {As rest : List Value} {w0 : va_W} {Φc : Option Value → va_W → Prop} (hd : decode cc pc = .ok (.invokespecial index, 3)) (is : List Nat)
    (hC : Ct sb2 y Tc Rc (.ref b :: As) Z w0 Φc mc2 ms2) (hsb : sb2 = true → sb = true) (hk : CS y Tc bytes maxL none nn) (hG : GoodIn Ts Tc) (hini : Cond.initialized y.cls ∈ Ts) (hnest : (own, index, y, host) ∈ nestW) (hl2 : Cond.instanceMethod y ∈ Ts) (hy : y.name = "<init>") (hR : Rc.frames + 1 ≤ R.frames ∧ 8 + (maxL + 11) + Rc.locals ≤ R.locals) (hrm : Rc.cells = mc2 ∧ Rc.slots = ms2)
    (hs : is.map (fun i => ws[i]?) = w0.map some) (hnd : va_nd is = true) (hAs : As.length = nn) (hst : st = As.reverse ++ .ref b :: rest) (hcat : (rest.map fun v => v.category).sum ≤ 8) (hroom : k + mc2 ≤ R.cells ∧ n + ms2 ≤ R.slots) (hq : pc + 3 = q)
    (kk : ∀ (v : Option Value) (w : va_W), Φc v w → ∃ w1 ext : va_W, w = w1 ++ ext ∧ w1.map Prod.fst = w0.map Prod.fst ∧ GG X R cc nL Ts own ini sb Z Φ mc ms (k + mc2) (n + ms2) (putw ws is w1 ++ ext) lv (v.toList ++ rest) q) : GG X R cc nL Ts own ini sb Z Φ mc ms k n ws lv (st) pc := by
  subst hq
  obtain ⟨⟨w2, hw⟩, hy1, hy2, hy3⟩ := hk
  refine G_runN (rest := rest) is hs hnd (fun p l e s m args below meth c D A H locs ls S hls hNW hK hP0 hD0 hEE hM => ?_) hsb hC kk
  exact va_runIN (host := host) S hM ⟨va_cnB nn S.2.2.2.2 hG hw hrm.1 hrm.2 (hNW _ hnest) (S.2.2.2.2 _ hini) ⟨hy1, hy2, hy3⟩ hR, hy, S.2.2.2.2 _ hl2⟩ ⟨fb_Ct, fun U hU hW => ⟨rfl, by rw [hU], by rw [hU]; exact hP0, va_K.moved hW.alike hK, hD0, hEE U hU hW⟩⟩ rfl hAs hls hst (lv_room hcat) hd hroom
end
